set_option maxRecDepth 20000 in
theorem in_q_X3_alter_X3 : ∀ w ∈ u_ws RX3 TX3 23, w ∈ wsX3_alter := by decide +kernel
set_option maxRecDepth 100000 in
set_option maxHeartbeats 4000000 in
theorem q_X3_alter (l : Launch) (dC : Nat → ClassId) (dI : Nat → Nat → Nat) (TT : Nat × Nat × Nat) (sz : Nat) (kI kJ kZ : ClassId) (K : Nat → Nat) (L : List Nat) (f : Nat → va_E) (hPI : PR kI kJ kZ K L f) (g0 : Nat) (hg0 : isr K L 10 g0) (p0 : Int32) (p1 : Int64) (hU : UN K L) (hXL : XL kI kJ K L f 19 20) : Met l yX3_alter wsX3_alter ({ frames := 1, cells := 0, slots := 0, locals := 25 } : Room) (va_Pc [.ref g0, .int p0, .long p1] (pr dC dI (va_pl L f) (va_pl L f) [(kI, .int), (kJ, .long), (kZ, .boolean)] sz TT)) (va_Qi (fun (r : Int32) (u : Unit) => True) (fun (_ : Unit) t => ∃ f2 : Nat → va_E, PR kI kJ kZ K L f2 ∧ (FR (sK [20]) K L f f2 ∧ XL kI kJ K L f2 19 20) ∧ va_P (dC, dI) vwCl (va_pl L f2) t.heap ∧ va_D (va_A (va_pl L f) sz) (va_pl L f2)) (va_A (va_pl L f) sz)) 0 0 (va_A (va_pl L f) sz) := by
  refine Met.ofW (cc := cX3_alter) (maxL := 4) (ret := (some .int)) (by decide) rfl ?_
  intro p e s m args below meth c s₁ B hml hv
  obtain ⟨rfl, hsz, hP, hK, hD0, hst⟩ := hv
  have hx := B.exec
  have hb := B.bytes
  have hr := B.returns
  have hts := atoms_spec (ws := wsX3_alter) B.pre
  have hown : s.vm.findClass RX3 = some m.cls := findClass_of_methodNamed B.named
  have hlocks := B.notSynchronized
  have iX3_ := in_q_X3_alter_X3
  subst hsz
  have hD := hD0.self (sz := s.heap.size)
  generalize hAe : va_A (va_pl L f) s.heap.size = A at hD hst ⊢
  have hA : ∀ q : Nat, s.heap.size ≤ q → A q := fun q h => by rw [← hAe]; exact Or.inr h
  have hS : va_S A s.heap s.heap [] := va_S.rf
  have hl := lv_entry ([.ref g0, .int p0, .long p1]) (n := 4) (Nat.le_of_ble_eq_true rfl)
  rw [lg_entry_eq]
  generalize (lg_sl ([.ref g0, .int p0, .long p1]) ++ List.replicate (4 - (lg_sl ([.ref g0, .int p0, .long p1])).length) Slot.unset).toArray = ls at hl ⊢
  have hl : lv_has ls 4 [(0, .ref g0), (1, .int p0), (2, .long p1)] := hl
  have km1_ : Int32.toInt (-1) = -1 := by decide
  have k1_ : Int32.toInt 1 = 1 := by decide
  have k9_ : Int32.toInt 9 = 9 := by decide
  have kl0_ : Int64.toInt 0 = 0 := by decide
  have hfr : FR (sK [20]) K L f f := FR.rf
  obtain ⟨s1_1, s2_1, s3_1, s4_1, s5_1, s6_1, s7_1, pa_1, lm_1, s8_1, s9_1, s10_1, fm_1, s11_1, nm_1, s12_1, s13_1, s14_1, rm_1, s15_1, s16_1, s17_1, s18_1, e_1, fs1_1, fs2_1, fs3_1, fs4_1, fs5_1, fs6_1, fs7_1, flm_1, fs8_1, fs9_1, fs10_1, ffm_1, fs11_1, fnm_1, fs12_1, fs13_1, fs14_1, frm_1, fs15_1, fs16_1, fs17_1, fs18_1⟩ := hPI.a10 hg0
  obtain ⟨k_1, hk_1⟩ := va_plg hg0.1 e_1
  obtain ⟨g_2, e_2, fg_2⟩ := hPI.a19 fs9_1
  obtain ⟨k_2, hk_2⟩ := va_plg fs9_1.1 e_2
  obtain ⟨g_3, e_3, fg_3⟩ := hPI.a20 fs10_1
  obtain ⟨k_3, hk_3⟩ := va_plg fs10_1.1 e_3
  have hxl := hXL _ _ _ _ fs9_1 fs10_1 e_2 e_3
  refine lv_iload_n hx hb dX3_alter_0 rfl (lv_at hl 1 rfl) ?_
  refine lv_i2l (v := Int32.toInt64 p0) hx hb dX3_alter_1 rfl ?_
  have k_z_4 := Int32.toInt_toInt64 p0
  refine lv_lconst (v := 0) hx hb dX3_alter_2 (by decide) ?_
  refine lv_aload_n hx hb dX3_alter_3 rfl (lv_at hl 0 rfl) ?_
  obtain ⟨k_5, hk_5⟩ := va_plg hg0.1 e_1
  refine va_get (D := (dC, dI)) (ci := 3) (v := .int lm_1) (C := RX3) (T := TX3) (N := 23) hx hb hts iX3_ hown hK hP k_5 hk_5 rfl 8 (by decide) (hts (.fieldLink RX3 184 "FieldLeavesModel" "leafMany" "I") (by decide +kernel)) (fun _ h9 => h9) rfl dX3_alter_4 ?_
  refine lv_iconst (v := 1) hx hb dX3_alter_7 (by decide) ?_
  refine lv_isub hx hb dX3_alter_8 ?_
  refine lv_topi (fun z_6 ez_6 => ?_)
  have kz_6 := sub_toInt2 ez_6 (by omega) (by omega)
  refine lv_i2l (v := Int32.toInt64 z_6) hx hb dX3_alter_9 rfl ?_
  have k_z_7 := Int32.toInt_toInt64 z_6
  refine va_calli (va_runS (As := [.long (Int32.toInt64 p0), .long 0, .long (Int32.toInt64 z_6)]) (rest := []) ⟨hx, hb, hml, hown, hts⟩ (c_X3_in l dC dI TT s.heap.size (Int32.toInt64 p0) 0 (Int32.toInt64 z_6)) (va_cwS 3 hts gX3_alter_X3_in rfl rfl rfl (by decide +kernel) ⟨Nat.le_of_ble_eq_true rfl, Nat.le_of_ble_eq_true rfl⟩) (pr_S (ws := []) (wA := []) (tys := []) vp_nil (hK.sub [] rfl) vd_nil hst hS (ro_free hS hA)) rfl rfl hl.1 rfl (lv_room (Nat.le_of_ble_eq_true rfl)) dX3_alter_10 ⟨Nat.le_of_ble_eq_true rfl, Nat.le_of_ble_eq_true rfl⟩) hS (fun q _ h => (ro_free hS hA) q h) (ro_free hS hA) (fun r_8 u t H1 locs ht hvm hw hB hz1 hk1 hS => ?_)
  have hP := ro_keep hP hk1
  generalize H1 = H at hP hS ⊢
  rcases hw with ⟨rfl, hp_9⟩ | ⟨rfl, hp_9⟩
  · refine lv_if_eq (tgt := 37) hx hb dX3_alter_13 (by decide) (fun c9 => absurd c9 (by decide)) (fun _ => ?_)
    refine lv_aload_n hx hb dX3_alter_16 rfl (lv_at hl 0 rfl) ?_
    obtain ⟨k_10, hk_10⟩ := va_plg hg0.1 e_1
    refine va_get (D := (dC, dI)) (ci := 3) (v := .ref s9_1) (C := RX3) (T := TX3) (N := 23) hx hb hts iX3_ hown hK hP k_10 hk_10 rfl 10 (by decide) (hts (.fieldLink RX3 38 "FieldLeavesModel" "leafField" "[I") (by decide +kernel)) (fun _ h9 => h9) rfl dX3_alter_17 ?_
    refine lv_iload_n hx hb dX3_alter_20 rfl (lv_at hl 1 rfl) ?_
    obtain ⟨k_11, hk_11⟩ := va_plg fs9_1.1 e_2
    have h_11 : vp_in p0 300 := (vp_in_iff.mpr (by constructor <;> omega))
    refine va_iald hx hb hK hP k_11 0 hk_11 rfl h_11 dX3_alter_21 ?_
    refine lv_topi (fun z_11 ez_11 => ?_)
    have fz_11 := fg_2 _ (vp_lt h_11)
    rw [← ez_11] at fz_11
    refine lv_iconst (v := (-1)) hx hb dX3_alter_22 (by decide) ?_
    refine lv_icmp_eq (tgt := 37) hx hb dX3_alter_23 (by decide) (fun c_12 => ?_) (fun c_12 => ?_)
    · have c_12 := congrArg Int32.toInt c_12
      refine lv_iconst (v := (-1)) hx hb dX3_alter_37 (by decide) ?_
      exact W.iret (v := (-1)) hx hb hr (fun t ht hW => ⟨⟨(-1), (), rfl, trivial, f, hPI, ⟨hfr, hXL⟩, by rw [ht]; exact hP, hD⟩, hS.F ht⟩) hS.2.2 dX3_alter_38
    · have c_12 := mt Int32.toInt_inj.mp c_12
      refine lv_aload_n hx hb dX3_alter_26 rfl (lv_at hl 0 rfl) ?_
      obtain ⟨k_13, hk_13⟩ := va_plg hg0.1 e_1
      refine va_get (D := (dC, dI)) (ci := 3) (v := .ref s9_1) (C := RX3) (T := TX3) (N := 23) hx hb hts iX3_ hown hK hP k_13 hk_13 rfl 10 (by decide) (hts (.fieldLink RX3 38 "FieldLeavesModel" "leafField" "[I") (by decide +kernel)) (fun _ h9 => h9) rfl dX3_alter_27 ?_
      refine lv_iload_n hx hb dX3_alter_30 rfl (lv_at hl 1 rfl) ?_
      obtain ⟨k_14, hk_14⟩ := va_plg fs9_1.1 e_2
      have h_14 : vp_in p0 300 := (vp_in_iff.mpr (by constructor <;> omega))
      refine va_iald hx hb hK hP k_14 0 hk_14 rfl h_14 dX3_alter_31 ?_
      refine lv_topi (fun z_14 ez_14 => ?_)
      obtain rfl : z_11 = z_14 := ez_11.trans ez_14.symm
      refine lv_bipush (v := 9) hx hb dX3_alter_32 (by decide) ?_
      refine lv_icmp_ne (tgt := 39) hx hb dX3_alter_34 (by decide) (fun c_15 => ?_) (fun c_15 => ?_)
      · have c_15 := mt Int32.toInt_inj.mp c_15
        refine lv_aload_n hx hb dX3_alter_39 rfl (lv_at hl 0 rfl) ?_
        obtain ⟨k_16, hk_16⟩ := va_plg hg0.1 e_1
        refine va_get (D := (dC, dI)) (ci := 3) (v := .ref s10_1) (C := RX3) (T := TX3) (N := 23) hx hb hts iX3_ hown hK hP k_16 hk_16 rfl 11 (by decide) (hts (.fieldLink RX3 41 "FieldLeavesModel" "leafValue" "[J") (by decide +kernel)) (fun _ h9 => h9) rfl dX3_alter_40 ?_
        refine lv_iload_n hx hb dX3_alter_43 rfl (lv_at hl 1 rfl) ?_
        refine lv_lload_n hx hb dX3_alter_44 rfl (lv_at hl 2 rfl) ?_
        obtain ⟨k_17, hk_17⟩ := va_plg fs10_1.1 e_3
        have h_17 : vp_in p0 300 := (vp_in_iff.mpr (by constructor <;> omega))
        have fw_17 := trivial
        have hD9 := hD
        refine va_last hx hb hK hP hD hS k_17 1 hk_17 rfl h_17 dX3_alter_45 (fun H locs hP hD hS => ?_)
        have hP : va_P (dC, dI) vwCl (va_pl L (va_up f s10_1 (.inl (kJ, 300, .inr (.inl (vp_updL g_3 (Int32.toNatClampNeg p0) p1)))))) H := by rw [← va_pls hD9 fs10_1.1 hk_17 _]; exact hP
        have hD : va_D A (va_pl L (va_up f s10_1 (.inl (kJ, 300, .inr (.inl (vp_updL g_3 (Int32.toNatClampNeg p0) p1)))))) := by rw [← va_pls hD9 fs10_1.1 hk_17 _]; exact hD
        have hPI := hPI.put (e := .inl (kJ, 300, .inr (.inl (vp_updL g_3 (Int32.toNatClampNeg p0) p1)))) fs10_1 ⟨_, rfl, fw_17⟩
        have es_f_18 : va_up f s10_1 (.inl (kJ, 300, .inr (.inl (vp_updL g_3 (Int32.toNatClampNeg p0) p1)))) s10_1 = .inl (kJ, 300, .inr (.inl (vp_updL g_3 (Int32.toNatClampNeg p0) p1))) := va_up_self _ _ _
        have eq_19 := (va_up_ne f (.inl (kJ, 300, .inr (.inl (vp_updL g_3 (Int32.toNatClampNeg p0) p1)))) (isr_ne hg0 fs10_1 (by decide))).trans e_1
        have eq_20 := (va_up_ne f (.inl (kJ, 300, .inr (.inl (vp_updL g_3 (Int32.toNatClampNeg p0) p1)))) (isr_ne fs9_1 fs10_1 (by decide))).trans e_2
        have hfr := fr_up (S := (sK [20])) (e := .inl (kJ, 300, .inr (.inl (vp_updL g_3 (Int32.toNatClampNeg p0) p1)))) hfr fs10_1 (by decide)
        generalize va_up f s10_1 (.inl (kJ, 300, .inr (.inl (vp_updL g_3 (Int32.toNatClampNeg p0) p1)))) = f_18 at hP hD hPI es_f_18 eq_19 eq_20 hfr
        refine lv_iconst (v := 1) hx hb dX3_alter_46 (by decide) ?_
        exact W.iret (v := 1) hx hb hr (fun t ht hW => ⟨⟨1, (), rfl, trivial, f_18, hPI, ⟨hfr, XL.mk hU fs9_1 fs10_1 eq_20 es_f_18 (xl_upd hxl (by rw [← ez_11]; omega))⟩, by rw [ht]; exact hP, hD⟩, hS.F ht⟩) hS.2.2 dX3_alter_47
      · have c_15 := congrArg Int32.toInt c_15
        refine lv_iconst (v := (-1)) hx hb dX3_alter_37 (by decide) ?_
        exact W.iret (v := (-1)) hx hb hr (fun t ht hW => ⟨⟨(-1), (), rfl, trivial, f, hPI, ⟨hfr, hXL⟩, by rw [ht]; exact hP, hD⟩, hS.F ht⟩) hS.2.2 dX3_alter_38
  · refine lv_if_eq (tgt := 37) hx hb dX3_alter_13 (by decide) (fun _ => ?_) (fun c9 => absurd c9 (by decide))
    refine lv_iconst (v := (-1)) hx hb dX3_alter_37 (by decide) ?_
    exact W.iret (v := (-1)) hx hb hr (fun t ht hW => ⟨⟨(-1), (), rfl, trivial, f, hPI, ⟨hfr, hXL⟩, by rw [ht]; exact hP, hD⟩, hS.F ht⟩) hS.2.2 dX3_alter_38
set_option maxRecDepth 20000 in
theorem in_q_X3_told_X3 : ∀ w ∈ u_ws RX3 TX3 23, w ∈ wsX3_told := by decide +kernel
set_option maxRecDepth 100000 in
set_option maxHeartbeats 4000000 in
theorem q_X3_told (l : Launch) (dC : Nat → ClassId) (dI : Nat → Nat → Nat) (TT : Nat × Nat × Nat) (sz : Nat) (kI kJ kZ : ClassId) (K : Nat → Nat) (L : List Nat) (f : Nat → va_E) (hPI : PR kI kJ kZ K L f) (g0 : Nat) (hg0 : isr K L 10 g0) (o0 f0 : Int32) : Met l yX3_told wsX3_told ({ frames := 0, cells := 0, slots := 0, locals := 0 } : Room) (va_Pc [.ref g0, .int o0, .int f0] (pr dC dI (va_pl L f) [] [(kI, .int), (kJ, .long), (kZ, .boolean)] sz TT)) (va_Ql (fun (r : Int64) (u : Unit) => True) (fun _ _ => True) (va_A [] sz)) 0 0 (va_A [] sz) := by
  refine Met.ofW (cc := cX3_told) (maxL := 4) (ret := (some .long)) (by decide) rfl ?_
  intro p e s m args below meth c s₁ B hml hv
  obtain ⟨rfl, hsz, hP, hK, hD0, hst⟩ := hv
  have hx := B.exec
  have hb := B.bytes
  have hr := B.returns
  have hts := atoms_spec (ws := wsX3_told) B.pre
  have hown : s.vm.findClass RX3 = some m.cls := findClass_of_methodNamed B.named
  have hlocks := B.notSynchronized
  have iX3_ := in_q_X3_told_X3
  subst hsz
  have hD := hD0.self (sz := s.heap.size)
  generalize hAe : va_A [] s.heap.size = A at hD hst ⊢
  have hA : ∀ q : Nat, s.heap.size ≤ q → A q := fun q h => by rw [← hAe]; exact Or.inr h
  have hS : va_S A s.heap s.heap [] := va_S.rf
  have hl := lv_entry ([.ref g0, .int o0, .int f0]) (n := 4) (Nat.le_of_ble_eq_true rfl)
  rw [lg_entry_eq]
  generalize (lg_sl ([.ref g0, .int o0, .int f0]) ++ List.replicate (4 - (lg_sl ([.ref g0, .int o0, .int f0])).length) Slot.unset).toArray = ls at hl ⊢
  have hl : lv_has ls 4 [(0, .ref g0), (1, .int o0), (2, .int f0)] := hl
  have k0_ : Int32.toInt 0 = 0 := by decide
  have kl0_ : Int64.toInt 0 = 0 := by decide
  refine W_nameQ (fun Q0 eQ => ?_)
  refine lv_iconst (v := 0) hx hb dX3_told_0 (by decide) ?_
  refine lv_istore_n (lv' := [(3, .int 0), (0, .ref g0), (1, .int o0), (2, .int f0)]) hx hb dX3_told_1 rfl hl (by decide) rfl (fun ls hl => ?_)
  have loop_2 : ∀ (n : Nat) (i3 : Int32)   (H : Heap) (locs : List Loc) (ls : Array Slot), (0 ≤ i3.toInt ∧ i3.toInt ≤ 300) → (300 - i3.toInt).toNat < n → va_P (dC, dI) vwCl (va_pl L f) H → va_S A s.heap H locs → lv_has ls 4 [(3, .int i3), (0, .ref g0), (1, .int o0), (2, .int f0)] → W p l e (headSpec wsX3_told ({ frames := 0, cells := 0, slots := 0, locals := 0 } : Room)).room s m (([.ref g0, .int o0, .int f0] : List Value).toArray) below meth c H locs 0 0 Q0 (F0 m 2 ls []) := by
    intro n
    induction n with
    | zero => intro i3 H locs ls  _ h9; exact absurd h9 (Nat.not_lt_zero _)
    | succ n ih_2 =>
      intro i3 H locs ls  hI hM hP hS hl
      refine lv_iload_n hx hb dX3_told_2 rfl (lv_at hl 0 rfl) ?_
      refine lv_aload_n hx hb dX3_told_3 rfl (lv_at hl 1 rfl) ?_
      obtain ⟨s1_1, s2_1, s3_1, s4_1, s5_1, s6_1, s7_1, pa_1, lm_1, s8_1, s9_1, s10_1, fm_1, s11_1, nm_1, s12_1, s13_1, s14_1, rm_1, s15_1, s16_1, s17_1, s18_1, e_1, fs1_1, fs2_1, fs3_1, fs4_1, fs5_1, fs6_1, fs7_1, flm_1, fs8_1, fs9_1, fs10_1, ffm_1, fs11_1, fnm_1, fs12_1, fs13_1, fs14_1, frm_1, fs15_1, fs16_1, fs17_1, fs18_1⟩ := hPI.a10 hg0
      obtain ⟨k_1, hk_1⟩ := va_plg hg0.1 e_1
      refine va_get (D := (dC, dI)) (ci := 3) (v := .int lm_1) (C := RX3) (T := TX3) (N := 23) hx hb hts iX3_ hown hK hP k_1 hk_1 rfl 8 (by decide) (hts (.fieldLink RX3 184 "FieldLeavesModel" "leafMany" "I") (by decide +kernel)) (fun _ h9 => h9) rfl dX3_told_4 ?_
      refine lv_icmp_ge (tgt := 43) hx hb dX3_told_7 (by decide) (fun c_2 => ?_) (fun c_2 => ?_)
      · have c_2 := Int32.le_iff_toInt_le.mp c_2
        refine lv_lconst (v := 0) hx hb dX3_told_43 (by decide) ?_
        subst eQ
        exact W.lret (v := 0) hx hb hr (fun t ht hW => ⟨⟨0, (), rfl, trivial, trivial⟩, hS.F ht⟩) hS.2.2 dX3_told_44
      · have c_2 := mt Int32.le_iff_toInt_le.mpr c_2
        refine lv_aload_n hx hb dX3_told_10 rfl (lv_at hl 1 rfl) ?_
        obtain ⟨k_3, hk_3⟩ := va_plg hg0.1 e_1
        refine va_get (D := (dC, dI)) (ci := 3) (v := .ref s8_1) (C := RX3) (T := TX3) (N := 23) hx hb hts iX3_ hown hK hP k_3 hk_3 rfl 9 (by decide) (hts (.fieldLink RX3 35 "FieldLeavesModel" "leafObject" "[I") (by decide +kernel)) (fun _ h9 => h9) rfl dX3_told_11 ?_
        refine lv_iload_n hx hb dX3_told_14 rfl (lv_at hl 0 rfl) ?_
        obtain ⟨g_4, e_4, fg_4⟩ := hPI.a18 fs8_1
        obtain ⟨k_4, hk_4⟩ := va_plg fs8_1.1 e_4
        have h_4 : vp_in i3 300 := (vp_in_iff.mpr (by constructor <;> omega))
        refine va_iald hx hb hK hP k_4 0 hk_4 rfl h_4 dX3_told_15 ?_
        refine lv_topi (fun z_4 ez_4 => ?_)
        have fz_4 := fg_4 _ (vp_lt h_4)
        rw [← ez_4] at fz_4
        refine lv_iload_n hx hb dX3_told_16 rfl (lv_at hl 2 rfl) ?_
        refine lv_icmp_ne (tgt := 37) hx hb dX3_told_17 (by decide) (fun c_5 => ?_) (fun c_5 => ?_)
        · have c_5 := mt Int32.toInt_inj.mp c_5
          obtain ⟨i_6, ei_6⟩ : ∃ y : Int32, y = i3 + 1 := ⟨_, rfl⟩
          refine lv_iinc (v := i_6) (lv' := [(3, .int i_6), (0, .ref g0), (1, .int o0), (2, .int f0)]) hx hb dX3_told_37 hl (k := 0) rfl (by rw [ei_6]; rfl) (by decide) rfl (fun ls hl => ?_)
          have ki_6 := inc_toInt ei_6 (by omega)
          refine lv_goto (tgt := 2) hx hb dX3_told_40 (by decide) ?_
          exact ih_2 i_6 _ _ _  (by omega) (by omega) hP hS (lv_sub hl [0, 1, 2, 3] rfl)
        · have c_5 := congrArg Int32.toInt c_5
          refine lv_aload_n hx hb dX3_told_20 rfl (lv_at hl 1 rfl) ?_
          obtain ⟨k_7, hk_7⟩ := va_plg hg0.1 e_1
          refine va_get (D := (dC, dI)) (ci := 3) (v := .ref s9_1) (C := RX3) (T := TX3) (N := 23) hx hb hts iX3_ hown hK hP k_7 hk_7 rfl 10 (by decide) (hts (.fieldLink RX3 38 "FieldLeavesModel" "leafField" "[I") (by decide +kernel)) (fun _ h9 => h9) rfl dX3_told_21 ?_
          refine lv_iload_n hx hb dX3_told_24 rfl (lv_at hl 0 rfl) ?_
          obtain ⟨g_8, e_8, fg_8⟩ := hPI.a19 fs9_1
          obtain ⟨k_8, hk_8⟩ := va_plg fs9_1.1 e_8
          have h_8 : vp_in i3 300 := (vp_in_iff.mpr (by constructor <;> omega))
          refine va_iald hx hb hK hP k_8 0 hk_8 rfl h_8 dX3_told_25 ?_
          refine lv_topi (fun z_8 ez_8 => ?_)
          have fz_8 := fg_8 _ (vp_lt h_8)
          rw [← ez_8] at fz_8
          refine lv_iload_n hx hb dX3_told_26 rfl (lv_at hl 3 rfl) ?_
          refine lv_icmp_ne (tgt := 37) hx hb dX3_told_27 (by decide) (fun c_9 => ?_) (fun c_9 => ?_)
          · have c_9 := mt Int32.toInt_inj.mp c_9
            obtain ⟨i_10, ei_10⟩ : ∃ y : Int32, y = i3 + 1 := ⟨_, rfl⟩
            refine lv_iinc (v := i_10) (lv' := [(3, .int i_10), (0, .ref g0), (1, .int o0), (2, .int f0)]) hx hb dX3_told_37 hl (k := 0) rfl (by rw [ei_10]; rfl) (by decide) rfl (fun ls hl => ?_)
            have ki_10 := inc_toInt ei_10 (by omega)
            refine lv_goto (tgt := 2) hx hb dX3_told_40 (by decide) ?_
            exact ih_2 i_10 _ _ _  (by omega) (by omega) hP hS (lv_sub hl [0, 1, 2, 3] rfl)
          · have c_9 := congrArg Int32.toInt c_9
            refine lv_aload_n hx hb dX3_told_30 rfl (lv_at hl 1 rfl) ?_
            obtain ⟨k_11, hk_11⟩ := va_plg hg0.1 e_1
            refine va_get (D := (dC, dI)) (ci := 3) (v := .ref s10_1) (C := RX3) (T := TX3) (N := 23) hx hb hts iX3_ hown hK hP k_11 hk_11 rfl 11 (by decide) (hts (.fieldLink RX3 41 "FieldLeavesModel" "leafValue" "[J") (by decide +kernel)) (fun _ h9 => h9) rfl dX3_told_31 ?_
            refine lv_iload_n hx hb dX3_told_34 rfl (lv_at hl 0 rfl) ?_
            obtain ⟨g_12, e_12, fg_12⟩ := hPI.a20 fs10_1
            obtain ⟨k_12, hk_12⟩ := va_plg fs10_1.1 e_12
            have h_12 : vp_in i3 300 := (vp_in_iff.mpr (by constructor <;> omega))
            refine va_lald hx hb hK hP k_12 1 hk_12 rfl h_12 dX3_told_35 ?_
            refine lv_topl (fun z_12 ez_12 => ?_)
            subst eQ
            exact W.lret (v := z_12) hx hb hr (fun t ht hW => ⟨⟨z_12, (), rfl, trivial, trivial⟩, hS.F ht⟩) hS.2.2 dX3_told_36
  exact loop_2 301 0 _ _ _  (by omega) (by omega) hP hS hl
set_option maxRecDepth 20000 in
theorem in_q_X3_numberOf_X3 : ∀ w ∈ u_ws RX3 TX3 23, w ∈ wsX3_numberOf := by decide +kernel
set_option maxRecDepth 100000 in
set_option maxHeartbeats 4000000 in
theorem q_X3_numberOf (l : Launch) (dC : Nat → ClassId) (dI : Nat → Nat → Nat) (TT : Nat × Nat × Nat) (sz : Nat) (kI kJ kZ : ClassId) (K : Nat → Nat) (L : List Nat) (f : Nat → va_E) (hPI : PR kI kJ kZ K L f) (g0 : Nat) (hg0 : isr K L 10 g0) (o0 : Int32) : Met l yX3_numberOf wsX3_numberOf ({ frames := 0, cells := 0, slots := 0, locals := 0 } : Room) (va_Pc [.ref g0, .int o0] (pr dC dI (va_pl L f) [] [(kI, .int), (kJ, .long), (kZ, .boolean)] sz TT)) (va_Qi (fun (r : Int32) (u : Unit) => r.toInt = -4 ∨ (0 ≤ r.toInt ∧ r.toInt < 24)) (fun _ _ => True) (va_A [] sz)) 0 0 (va_A [] sz) := by
  refine Met.ofW (cc := cX3_numberOf) (maxL := 3) (ret := (some .int)) (by decide) rfl ?_
  intro p e s m args below meth c s₁ B hml hv
  obtain ⟨rfl, hsz, hP, hK, hD0, hst⟩ := hv
  have hx := B.exec
  have hb := B.bytes
  have hr := B.returns
  have hts := atoms_spec (ws := wsX3_numberOf) B.pre
  have hown : s.vm.findClass RX3 = some m.cls := findClass_of_methodNamed B.named
  have hlocks := B.notSynchronized
  have iX3_ := in_q_X3_numberOf_X3
  subst hsz
  have hD := hD0.self (sz := s.heap.size)
  generalize hAe : va_A [] s.heap.size = A at hD hst ⊢
  have hA : ∀ q : Nat, s.heap.size ≤ q → A q := fun q h => by rw [← hAe]; exact Or.inr h
  have hS : va_S A s.heap s.heap [] := va_S.rf
  have hl := lv_entry ([.ref g0, .int o0]) (n := 3) (Nat.le_of_ble_eq_true rfl)
  rw [lg_entry_eq]
  generalize (lg_sl ([.ref g0, .int o0]) ++ List.replicate (3 - (lg_sl ([.ref g0, .int o0])).length) Slot.unset).toArray = ls at hl ⊢
  have hl : lv_has ls 3 [(0, .ref g0), (1, .int o0)] := hl
  have km4_ : Int32.toInt (-4) = -4 := by decide
  have k0_ : Int32.toInt 0 = 0 := by decide
  refine W_nameQ (fun Q0 eQ => ?_)
  refine lv_iconst (v := 0) hx hb dX3_numberOf_0 (by decide) ?_
  refine lv_istore_n (lv' := [(2, .int 0), (0, .ref g0), (1, .int o0)]) hx hb dX3_numberOf_1 rfl hl (by decide) rfl (fun ls hl => ?_)
  have loop_2 : ∀ (n : Nat) (i2 : Int32)   (H : Heap) (locs : List Loc) (ls : Array Slot), (0 ≤ i2.toInt ∧ i2.toInt ≤ 24) → (24 - i2.toInt).toNat < n → va_P (dC, dI) vwCl (va_pl L f) H → va_S A s.heap H locs → lv_has ls 3 [(2, .int i2), (0, .ref g0), (1, .int o0)] → W p l e (headSpec wsX3_numberOf ({ frames := 0, cells := 0, slots := 0, locals := 0 } : Room)).room s m (([.ref g0, .int o0] : List Value).toArray) below meth c H locs 0 0 Q0 (F0 m 2 ls []) := by
    intro n
    induction n with
    | zero => intro i2 H locs ls  _ h9; exact absurd h9 (Nat.not_lt_zero _)
    | succ n ih_2 =>
      intro i2 H locs ls  hI hM hP hS hl
      refine lv_iload_n hx hb dX3_numberOf_2 rfl (lv_at hl 0 rfl) ?_
      refine lv_aload_n hx hb dX3_numberOf_3 rfl (lv_at hl 1 rfl) ?_
      obtain ⟨s1_1, s2_1, s3_1, s4_1, s5_1, s6_1, s7_1, pa_1, lm_1, s8_1, s9_1, s10_1, fm_1, s11_1, nm_1, s12_1, s13_1, s14_1, rm_1, s15_1, s16_1, s17_1, s18_1, e_1, fs1_1, fs2_1, fs3_1, fs4_1, fs5_1, fs6_1, fs7_1, flm_1, fs8_1, fs9_1, fs10_1, ffm_1, fs11_1, fnm_1, fs12_1, fs13_1, fs14_1, frm_1, fs15_1, fs16_1, fs17_1, fs18_1⟩ := hPI.a10 hg0
      obtain ⟨k_1, hk_1⟩ := va_plg hg0.1 e_1
      refine va_get (D := (dC, dI)) (ci := 3) (v := .int fm_1) (C := RX3) (T := TX3) (N := 23) hx hb hts iX3_ hown hK hP k_1 hk_1 rfl 12 (by decide) (hts (.fieldLink RX3 167 "FieldLeavesModel" "foundMany" "I") (by decide +kernel)) (fun _ h9 => h9) rfl dX3_numberOf_4 ?_
      refine lv_icmp_ge (tgt := 28) hx hb dX3_numberOf_7 (by decide) (fun c_2 => ?_) (fun c_2 => ?_)
      · have c_2 := Int32.le_iff_toInt_le.mp c_2
        refine lv_bipush (v := (-4)) hx hb dX3_numberOf_28 (by decide) ?_
        subst eQ
        exact W.iret (v := (-4)) hx hb hr (fun t ht hW => ⟨⟨(-4), (), rfl, (by omega), trivial⟩, hS.F ht⟩) hS.2.2 dX3_numberOf_30
      · have c_2 := mt Int32.le_iff_toInt_le.mpr c_2
        refine lv_aload_n hx hb dX3_numberOf_10 rfl (lv_at hl 1 rfl) ?_
        obtain ⟨k_3, hk_3⟩ := va_plg hg0.1 e_1
        refine va_get (D := (dC, dI)) (ci := 3) (v := .ref s11_1) (C := RX3) (T := TX3) (N := 23) hx hb hts iX3_ hown hK hP k_3 hk_3 rfl 13 (by decide) (hts (.fieldLink RX3 44 "FieldLeavesModel" "found" "[I") (by decide +kernel)) (fun _ h9 => h9) rfl dX3_numberOf_11 ?_
        refine lv_iload_n hx hb dX3_numberOf_14 rfl (lv_at hl 0 rfl) ?_
        obtain ⟨g_4, e_4, fg_4⟩ := hPI.a21 fs11_1
        obtain ⟨k_4, hk_4⟩ := va_plg fs11_1.1 e_4
        have h_4 : vp_in i2 25 := (vp_in_iff.mpr (by constructor <;> omega))
        refine va_iald hx hb hK hP k_4 0 hk_4 rfl h_4 dX3_numberOf_15 ?_
        refine lv_topi (fun z_4 ez_4 => ?_)
        have fz_4 := fg_4 _ (vp_lt h_4)
        rw [← ez_4] at fz_4
        refine lv_iload_n hx hb dX3_numberOf_16 rfl (lv_at hl 2 rfl) ?_
        refine lv_icmp_ne (tgt := 22) hx hb dX3_numberOf_17 (by decide) (fun c_5 => ?_) (fun c_5 => ?_)
        · have c_5 := mt Int32.toInt_inj.mp c_5
          obtain ⟨i_6, ei_6⟩ : ∃ y : Int32, y = i2 + 1 := ⟨_, rfl⟩
          refine lv_iinc (v := i_6) (lv' := [(2, .int i_6), (0, .ref g0), (1, .int o0)]) hx hb dX3_numberOf_22 hl (k := 0) rfl (by rw [ei_6]; rfl) (by decide) rfl (fun ls hl => ?_)
          have ki_6 := inc_toInt ei_6 (by omega)
          refine lv_goto (tgt := 2) hx hb dX3_numberOf_25 (by decide) ?_
          exact ih_2 i_6 _ _ _  (by omega) (by omega) hP hS (lv_sub hl [0, 1, 2] rfl)
        · have c_5 := congrArg Int32.toInt c_5
          refine lv_iload_n hx hb dX3_numberOf_20 rfl (lv_at hl 0 rfl) ?_
          subst eQ
          exact W.iret (v := i2) hx hb hr (fun t ht hW => ⟨⟨i2, (), rfl, (by omega), trivial⟩, hS.F ht⟩) hS.2.2 dX3_numberOf_21
  exact loop_2 25 0 _ _ _  (by omega) (by omega) hP hS hl
set_option maxRecDepth 20000 in
theorem in_q_X3_tell_X3 : ∀ w ∈ u_ws RX3 TX3 23, w ∈ wsX3_tell := by decide +kernel
set_option maxRecDepth 100000 in
set_option maxHeartbeats 4000000 in
theorem q_X3_tell (l : Launch) (dC : Nat → ClassId) (dI : Nat → Nat → Nat) (TT : Nat × Nat × Nat) (sz : Nat) (kI kJ kZ : ClassId) (K : Nat → Nat) (L : List Nat) (f : Nat → va_E) (hPI : PR kI kJ kZ K L f) (g0 : Nat) (hg0 : isr K L 10 g0) (o0 d0 : Int32) (v0 : Int64) (hU : UN K L) (hXL : XL kI kJ K L f 23 24) (ho0 : 0 ≤ o0.toInt ∧ o0.toInt < 24) (hd0 : (-1 ≤ d0.toInt ∧ d0.toInt < 17) ∨ (100 ≤ d0.toInt ∧ d0.toInt < 120)) (hv0 : d0.toInt = 9 → 0 ≤ v0.toInt ∧ v0.toInt ≤ 20) : Met l yX3_tell wsX3_tell ({ frames := 0, cells := 0, slots := 0, locals := 0 } : Room) (va_Pc [.ref g0, .int o0, .int d0, .long v0] (pr dC dI (va_pl L f) (va_pl L f) [(kI, .int), (kJ, .long), (kZ, .boolean)] sz TT)) (va_Qv (fun (u : Unit) => True) (fun (_ : Unit) t => ∃ f2 : Nat → va_E, PR kI kJ kZ K L f2 ∧ (FR (sK [10, 22, 23, 24]) K L f f2 ∧ XL kI kJ K L f2 23 24) ∧ va_P (dC, dI) vwCl (va_pl L f2) t.heap ∧ va_D (va_A (va_pl L f) sz) (va_pl L f2)) (va_A (va_pl L f) sz)) 0 0 (va_A (va_pl L f) sz) := by
  refine Met.ofW (cc := cX3_tell) (maxL := 5) (ret := none) (by decide) rfl ?_
  intro p e s m args below meth c s₁ B hml hv
  obtain ⟨rfl, hsz, hP, hK, hD0, hst⟩ := hv
  have hx := B.exec
  have hb := B.bytes
  have hr := B.returns
  have hts := atoms_spec (ws := wsX3_tell) B.pre
  have hown : s.vm.findClass RX3 = some m.cls := findClass_of_methodNamed B.named
  have hlocks := B.notSynchronized
  have iX3_ := in_q_X3_tell_X3
  subst hsz
  have hD := hD0.self (sz := s.heap.size)
  generalize hAe : va_A (va_pl L f) s.heap.size = A at hD hst ⊢
  have hA : ∀ q : Nat, s.heap.size ≤ q → A q := fun q h => by rw [← hAe]; exact Or.inr h
  have hS : va_S A s.heap s.heap [] := va_S.rf
  have hl := lv_entry ([.ref g0, .int o0, .int d0, .long v0]) (n := 5) (Nat.le_of_ble_eq_true rfl)
  rw [lg_entry_eq]
  generalize (lg_sl ([.ref g0, .int o0, .int d0, .long v0]) ++ List.replicate (5 - (lg_sl ([.ref g0, .int o0, .int d0, .long v0])).length) Slot.unset).toArray = ls at hl ⊢
  have hl : lv_has ls 5 [(0, .ref g0), (1, .int o0), (2, .int d0), (3, .long v0)] := hl
  have k1_ : Int32.toInt 1 = 1 := by decide
  have k300_ : Int32.toInt 300 = 300 := by decide
  have hfr : FR (sK [10, 22, 23, 24]) K L f f := FR.rf
  obtain ⟨s1_1, s2_1, s3_1, s4_1, s5_1, s6_1, s7_1, pa_1, lm_1, s8_1, s9_1, s10_1, fm_1, s11_1, nm_1, s12_1, s13_1, s14_1, rm_1, s15_1, s16_1, s17_1, s18_1, e_1, fs1_1, fs2_1, fs3_1, fs4_1, fs5_1, fs6_1, fs7_1, flm_1, fs8_1, fs9_1, fs10_1, ffm_1, fs11_1, fnm_1, fs12_1, fs13_1, fs14_1, frm_1, fs15_1, fs16_1, fs17_1, fs18_1⟩ := hPI.a10 hg0
  obtain ⟨k_1, hk_1⟩ := va_plg hg0.1 e_1
  obtain ⟨g_2, e_2, fg_2⟩ := hPI.a23 fs13_1
  obtain ⟨k_2, hk_2⟩ := va_plg fs13_1.1 e_2
  obtain ⟨g_3, e_3, fg_3⟩ := hPI.a24 fs14_1
  obtain ⟨k_3, hk_3⟩ := va_plg fs14_1.1 e_3
  have hxl := hXL _ _ _ _ fs13_1 fs14_1 e_2 e_3
  refine lv_aload_n hx hb dX3_tell_0 rfl (lv_at hl 0 rfl) ?_
  obtain ⟨k_4, hk_4⟩ := va_plg hg0.1 e_1
  refine va_get (D := (dC, dI)) (ci := 3) (v := .int nm_1) (C := RX3) (T := TX3) (N := 23) hx hb hts iX3_ hown hK hP k_4 hk_4 rfl 14 (by decide) (hts (.fieldLink RX3 160 "FieldLeavesModel" "newMany" "I") (by decide +kernel)) (fun _ h9 => h9) rfl dX3_tell_1 ?_
  refine lv_sipush (v := 300) hx hb dX3_tell_4 (by decide) ?_
  refine lv_icmp_ne (tgt := 16) hx hb dX3_tell_7 (by decide) (fun c_5 => ?_) (fun c_5 => ?_)
  · have c_5 := mt Int32.toInt_inj.mp c_5
    refine lv_aload_n hx hb dX3_tell_16 rfl (lv_at hl 0 rfl) ?_
    obtain ⟨k_6, hk_6⟩ := va_plg hg0.1 e_1
    refine va_get (D := (dC, dI)) (ci := 3) (v := .ref s12_1) (C := RX3) (T := TX3) (N := 23) hx hb hts iX3_ hown hK hP k_6 hk_6 rfl 15 (by decide) (hts (.fieldLink RX3 47 "FieldLeavesModel" "newObject" "[I") (by decide +kernel)) (fun _ h9 => h9) rfl dX3_tell_17 ?_
    refine lv_aload_n hx hb dX3_tell_20 rfl (lv_at hl 0 rfl) ?_
    obtain ⟨k_7, hk_7⟩ := va_plg hg0.1 e_1
    refine va_get (D := (dC, dI)) (ci := 3) (v := .int nm_1) (C := RX3) (T := TX3) (N := 23) hx hb hts iX3_ hown hK hP k_7 hk_7 rfl 14 (by decide) (hts (.fieldLink RX3 160 "FieldLeavesModel" "newMany" "I") (by decide +kernel)) (fun _ h9 => h9) rfl dX3_tell_21 ?_
    refine lv_iload_n hx hb dX3_tell_24 rfl (lv_at hl 1 rfl) ?_
    obtain ⟨g_8, e_8, fg_8⟩ := hPI.a22 fs12_1
    obtain ⟨k_8, hk_8⟩ := va_plg fs12_1.1 e_8
    have h_8 : vp_in nm_1 300 := (vp_in_iff.mpr (by constructor <;> omega))
    have fw_8 := updS (P := fun v => 0 ≤ v.toInt ∧ v.toInt < 24) (k := Int32.toNatClampNeg nm_1) (v := o0) fg_8 (by omega)
    have hD9 := hD
    refine va_iast hx hb hK hP hD hS k_8 0 hk_8 rfl h_8 dX3_tell_25 (fun H locs hP hD hS => ?_)
    have hP : va_P (dC, dI) vwCl (va_pl L (va_up f s12_1 (.inl (kI, 300, .inl (upd g_8 (Int32.toNatClampNeg nm_1) o0))))) H := by rw [← va_pls hD9 fs12_1.1 hk_8 _]; exact hP
    have hD : va_D A (va_pl L (va_up f s12_1 (.inl (kI, 300, .inl (upd g_8 (Int32.toNatClampNeg nm_1) o0))))) := by rw [← va_pls hD9 fs12_1.1 hk_8 _]; exact hD
    have hPI := hPI.put (e := .inl (kI, 300, .inl (upd g_8 (Int32.toNatClampNeg nm_1) o0))) fs12_1 ⟨_, rfl, fw_8⟩
    have es_f_9 : va_up f s12_1 (.inl (kI, 300, .inl (upd g_8 (Int32.toNatClampNeg nm_1) o0))) s12_1 = .inl (kI, 300, .inl (upd g_8 (Int32.toNatClampNeg nm_1) o0)) := va_up_self _ _ _
    have eq_10 := (va_up_ne f (.inl (kI, 300, .inl (upd g_8 (Int32.toNatClampNeg nm_1) o0))) (isr_ne hg0 fs12_1 (by decide))).trans e_1
    have eq_11 := (va_up_ne f (.inl (kI, 300, .inl (upd g_8 (Int32.toNatClampNeg nm_1) o0))) (isr_ne fs13_1 fs12_1 (by decide))).trans e_2
    have eq_12 := (va_up_ne f (.inl (kI, 300, .inl (upd g_8 (Int32.toNatClampNeg nm_1) o0))) (isr_ne fs14_1 fs12_1 (by decide))).trans e_3
    have hfr := fr_up (S := (sK [10, 22, 23, 24])) (e := .inl (kI, 300, .inl (upd g_8 (Int32.toNatClampNeg nm_1) o0))) hfr fs12_1 (by decide)
    generalize va_up f s12_1 (.inl (kI, 300, .inl (upd g_8 (Int32.toNatClampNeg nm_1) o0))) = f_9 at hP hD hPI es_f_9 eq_10 eq_11 eq_12 hfr
    refine lv_aload_n hx hb dX3_tell_26 rfl (lv_at hl 0 rfl) ?_
    obtain ⟨k_13, hk_13⟩ := va_plg hg0.1 eq_10
    refine va_get (D := (dC, dI)) (ci := 3) (v := .ref s13_1) (C := RX3) (T := TX3) (N := 23) hx hb hts iX3_ hown hK hP k_13 hk_13 rfl 16 (by decide) (hts (.fieldLink RX3 50 "FieldLeavesModel" "newField" "[I") (by decide +kernel)) (fun _ h9 => h9) rfl dX3_tell_27 ?_
    refine lv_aload_n hx hb dX3_tell_30 rfl (lv_at hl 0 rfl) ?_
    obtain ⟨k_14, hk_14⟩ := va_plg hg0.1 eq_10
    refine va_get (D := (dC, dI)) (ci := 3) (v := .int nm_1) (C := RX3) (T := TX3) (N := 23) hx hb hts iX3_ hown hK hP k_14 hk_14 rfl 14 (by decide) (hts (.fieldLink RX3 160 "FieldLeavesModel" "newMany" "I") (by decide +kernel)) (fun _ h9 => h9) rfl dX3_tell_31 ?_
    refine lv_iload_n hx hb dX3_tell_34 rfl (lv_at hl 2 rfl) ?_
    obtain ⟨k_15, hk_15⟩ := va_plg fs13_1.1 eq_11
    have h_15 : vp_in nm_1 300 := (vp_in_iff.mpr (by constructor <;> omega))
    have fw_15 := updS (P := fun v => (-1 ≤ v.toInt ∧ v.toInt < 17) ∨ (100 ≤ v.toInt ∧ v.toInt < 120)) (k := Int32.toNatClampNeg nm_1) (v := d0) fg_2 (by omega)
    have hD9 := hD
    refine va_iast hx hb hK hP hD hS k_15 0 hk_15 rfl h_15 dX3_tell_35 (fun H locs hP hD hS => ?_)
    have hP : va_P (dC, dI) vwCl (va_pl L (va_up f_9 s13_1 (.inl (kI, 300, .inl (upd g_2 (Int32.toNatClampNeg nm_1) d0))))) H := by rw [← va_pls hD9 fs13_1.1 hk_15 _]; exact hP
    have hD : va_D A (va_pl L (va_up f_9 s13_1 (.inl (kI, 300, .inl (upd g_2 (Int32.toNatClampNeg nm_1) d0))))) := by rw [← va_pls hD9 fs13_1.1 hk_15 _]; exact hD
    have hPI := hPI.put (e := .inl (kI, 300, .inl (upd g_2 (Int32.toNatClampNeg nm_1) d0))) fs13_1 ⟨_, rfl, fw_15⟩
    have es_f_16 : va_up f_9 s13_1 (.inl (kI, 300, .inl (upd g_2 (Int32.toNatClampNeg nm_1) d0))) s13_1 = .inl (kI, 300, .inl (upd g_2 (Int32.toNatClampNeg nm_1) d0)) := va_up_self _ _ _
    have eq_17 := (va_up_ne f_9 (.inl (kI, 300, .inl (upd g_2 (Int32.toNatClampNeg nm_1) d0))) (isr_ne hg0 fs13_1 (by decide))).trans eq_10
    have eq_18 := (va_up_ne f_9 (.inl (kI, 300, .inl (upd g_2 (Int32.toNatClampNeg nm_1) d0))) (isr_ne fs14_1 fs13_1 (by decide))).trans eq_12
    have eq_19 := (va_up_ne f_9 (.inl (kI, 300, .inl (upd g_2 (Int32.toNatClampNeg nm_1) d0))) (isr_ne fs12_1 fs13_1 (by decide))).trans es_f_9
    have hfr := fr_up (S := (sK [10, 22, 23, 24])) (e := .inl (kI, 300, .inl (upd g_2 (Int32.toNatClampNeg nm_1) d0))) hfr fs13_1 (by decide)
    generalize va_up f_9 s13_1 (.inl (kI, 300, .inl (upd g_2 (Int32.toNatClampNeg nm_1) d0))) = f_16 at hP hD hPI es_f_16 eq_17 eq_18 eq_19 hfr
    refine lv_aload_n hx hb dX3_tell_36 rfl (lv_at hl 0 rfl) ?_
    obtain ⟨k_20, hk_20⟩ := va_plg hg0.1 eq_17
    refine va_get (D := (dC, dI)) (ci := 3) (v := .ref s14_1) (C := RX3) (T := TX3) (N := 23) hx hb hts iX3_ hown hK hP k_20 hk_20 rfl 17 (by decide) (hts (.fieldLink RX3 53 "FieldLeavesModel" "newValue" "[J") (by decide +kernel)) (fun _ h9 => h9) rfl dX3_tell_37 ?_
    refine lv_aload_n hx hb dX3_tell_40 rfl (lv_at hl 0 rfl) ?_
    obtain ⟨k_21, hk_21⟩ := va_plg hg0.1 eq_17
    refine va_get (D := (dC, dI)) (ci := 3) (v := .int nm_1) (C := RX3) (T := TX3) (N := 23) hx hb hts iX3_ hown hK hP k_21 hk_21 rfl 14 (by decide) (hts (.fieldLink RX3 160 "FieldLeavesModel" "newMany" "I") (by decide +kernel)) (fun _ h9 => h9) rfl dX3_tell_41 ?_
    refine lv_lload_n hx hb dX3_tell_44 rfl (lv_at hl 3 rfl) ?_
    obtain ⟨k_22, hk_22⟩ := va_plg fs14_1.1 eq_18
    have h_22 : vp_in nm_1 300 := (vp_in_iff.mpr (by constructor <;> omega))
    have fw_22 := trivial
    have hD9 := hD
    refine va_last hx hb hK hP hD hS k_22 1 hk_22 rfl h_22 dX3_tell_45 (fun H locs hP hD hS => ?_)
    have hP : va_P (dC, dI) vwCl (va_pl L (va_up f_16 s14_1 (.inl (kJ, 300, .inr (.inl (vp_updL g_3 (Int32.toNatClampNeg nm_1) v0)))))) H := by rw [← va_pls hD9 fs14_1.1 hk_22 _]; exact hP
    have hD : va_D A (va_pl L (va_up f_16 s14_1 (.inl (kJ, 300, .inr (.inl (vp_updL g_3 (Int32.toNatClampNeg nm_1) v0)))))) := by rw [← va_pls hD9 fs14_1.1 hk_22 _]; exact hD
    have hPI := hPI.put (e := .inl (kJ, 300, .inr (.inl (vp_updL g_3 (Int32.toNatClampNeg nm_1) v0)))) fs14_1 ⟨_, rfl, fw_22⟩
    have es_f_23 : va_up f_16 s14_1 (.inl (kJ, 300, .inr (.inl (vp_updL g_3 (Int32.toNatClampNeg nm_1) v0)))) s14_1 = .inl (kJ, 300, .inr (.inl (vp_updL g_3 (Int32.toNatClampNeg nm_1) v0))) := va_up_self _ _ _
    have eq_24 := (va_up_ne f_16 (.inl (kJ, 300, .inr (.inl (vp_updL g_3 (Int32.toNatClampNeg nm_1) v0)))) (isr_ne hg0 fs14_1 (by decide))).trans eq_17
    have eq_25 := (va_up_ne f_16 (.inl (kJ, 300, .inr (.inl (vp_updL g_3 (Int32.toNatClampNeg nm_1) v0)))) (isr_ne fs12_1 fs14_1 (by decide))).trans eq_19
    have eq_26 := (va_up_ne f_16 (.inl (kJ, 300, .inr (.inl (vp_updL g_3 (Int32.toNatClampNeg nm_1) v0)))) (isr_ne fs13_1 fs14_1 (by decide))).trans es_f_16
    have hfr := fr_up (S := (sK [10, 22, 23, 24])) (e := .inl (kJ, 300, .inr (.inl (vp_updL g_3 (Int32.toNatClampNeg nm_1) v0)))) hfr fs14_1 (by decide)
    generalize va_up f_16 s14_1 (.inl (kJ, 300, .inr (.inl (vp_updL g_3 (Int32.toNatClampNeg nm_1) v0)))) = f_23 at hP hD hPI es_f_23 eq_24 eq_25 eq_26 hfr
    refine lv_aload_n hx hb dX3_tell_46 rfl (lv_at hl 0 rfl) ?_
    refine lv_dup hx hb dX3_tell_47 rfl ?_
    obtain ⟨k_27, hk_27⟩ := va_plg hg0.1 eq_24
    refine va_get (D := (dC, dI)) (ci := 3) (v := .int nm_1) (C := RX3) (T := TX3) (N := 23) hx hb hts iX3_ hown hK hP k_27 hk_27 rfl 14 (by decide) (hts (.fieldLink RX3 160 "FieldLeavesModel" "newMany" "I") (by decide +kernel)) (fun _ h9 => h9) rfl dX3_tell_48 ?_
    refine lv_iconst (v := 1) hx hb dX3_tell_51 (by decide) ?_
    refine lv_iadd hx hb dX3_tell_52 ?_
    refine lv_topi (fun z_28 ez_28 => ?_)
    have kz_28 := add_toInt ez_28 (by omega) (by omega)
    obtain ⟨k_29, hk_29⟩ := va_plg hg0.1 eq_24
    have hD9 := hD
    have rg_30 : 0 ≤ Int32.toInt z_28 ∧ Int32.toInt z_28 ≤ 300 := by constructor <;> omega
    refine va_put (D := (dC, dI)) (ci := 3) (v := .int z_28) (ty := .int) (C := RX3) (T := TX3) (N := 23) hx hb hts iX3_ tyX3 tyX3_ok nmX3 hown hK hP hD hS k_29 hk_29 rfl 14 (by decide) (hts (.fieldLink RX3 160 "FieldLeavesModel" "newMany" "I") (by decide +kernel)) (fun _ h9 => h9) rfl (by decide +kernel) rfl rfl (Nat.le_of_ble_eq_true rfl) dX3_tell_53 (fun H locs hP hD hS => ?_)
    have hP : va_P (dC, dI) vwCl (va_pl L (va_up f_23 g0 (.inr (3, [.ref s1_1, .ref s2_1, .ref s3_1, .ref s4_1, .ref s5_1, .ref s6_1, .ref s7_1, .int pa_1, .int lm_1, .ref s8_1, .ref s9_1, .ref s10_1, .int fm_1, .ref s11_1, .int z_28, .ref s12_1, .ref s13_1, .ref s14_1, .int rm_1, .ref s15_1, .ref s16_1, .ref s17_1, .ref s18_1])))) H := by rw [← va_pls hD9 hg0.1 hk_29 _]; exact hP
    have hD : va_D A (va_pl L (va_up f_23 g0 (.inr (3, [.ref s1_1, .ref s2_1, .ref s3_1, .ref s4_1, .ref s5_1, .ref s6_1, .ref s7_1, .int pa_1, .int lm_1, .ref s8_1, .ref s9_1, .ref s10_1, .int fm_1, .ref s11_1, .int z_28, .ref s12_1, .ref s13_1, .ref s14_1, .int rm_1, .ref s15_1, .ref s16_1, .ref s17_1, .ref s18_1])))) := by rw [← va_pls hD9 hg0.1 hk_29 _]; exact hD
    have hPI := hPI.put (e := .inr (3, [.ref s1_1, .ref s2_1, .ref s3_1, .ref s4_1, .ref s5_1, .ref s6_1, .ref s7_1, .int pa_1, .int lm_1, .ref s8_1, .ref s9_1, .ref s10_1, .int fm_1, .ref s11_1, .int z_28, .ref s12_1, .ref s13_1, .ref s14_1, .int rm_1, .ref s15_1, .ref s16_1, .ref s17_1, .ref s18_1])) hg0 ⟨s1_1, s2_1, s3_1, s4_1, s5_1, s6_1, s7_1, pa_1, lm_1, s8_1, s9_1, s10_1, fm_1, s11_1, z_28, s12_1, s13_1, s14_1, rm_1, s15_1, s16_1, s17_1, s18_1, rfl, fs1_1, fs2_1, fs3_1, fs4_1, fs5_1, fs6_1, fs7_1, flm_1, fs8_1, fs9_1, fs10_1, ffm_1, fs11_1, rg_30, fs12_1, fs13_1, fs14_1, frm_1, fs15_1, fs16_1, fs17_1, fs18_1⟩
    have es_f_31 : va_up f_23 g0 (.inr (3, [.ref s1_1, .ref s2_1, .ref s3_1, .ref s4_1, .ref s5_1, .ref s6_1, .ref s7_1, .int pa_1, .int lm_1, .ref s8_1, .ref s9_1, .ref s10_1, .int fm_1, .ref s11_1, .int z_28, .ref s12_1, .ref s13_1, .ref s14_1, .int rm_1, .ref s15_1, .ref s16_1, .ref s17_1, .ref s18_1])) g0 = .inr (3, [.ref s1_1, .ref s2_1, .ref s3_1, .ref s4_1, .ref s5_1, .ref s6_1, .ref s7_1, .int pa_1, .int lm_1, .ref s8_1, .ref s9_1, .ref s10_1, .int fm_1, .ref s11_1, .int z_28, .ref s12_1, .ref s13_1, .ref s14_1, .int rm_1, .ref s15_1, .ref s16_1, .ref s17_1, .ref s18_1]) := va_up_self _ _ _
    have eq_32 := (va_up_ne f_23 (.inr (3, [.ref s1_1, .ref s2_1, .ref s3_1, .ref s4_1, .ref s5_1, .ref s6_1, .ref s7_1, .int pa_1, .int lm_1, .ref s8_1, .ref s9_1, .ref s10_1, .int fm_1, .ref s11_1, .int z_28, .ref s12_1, .ref s13_1, .ref s14_1, .int rm_1, .ref s15_1, .ref s16_1, .ref s17_1, .ref s18_1])) (isr_ne fs12_1 hg0 (by decide))).trans eq_25
    have eq_33 := (va_up_ne f_23 (.inr (3, [.ref s1_1, .ref s2_1, .ref s3_1, .ref s4_1, .ref s5_1, .ref s6_1, .ref s7_1, .int pa_1, .int lm_1, .ref s8_1, .ref s9_1, .ref s10_1, .int fm_1, .ref s11_1, .int z_28, .ref s12_1, .ref s13_1, .ref s14_1, .int rm_1, .ref s15_1, .ref s16_1, .ref s17_1, .ref s18_1])) (isr_ne fs13_1 hg0 (by decide))).trans eq_26
    have eq_34 := (va_up_ne f_23 (.inr (3, [.ref s1_1, .ref s2_1, .ref s3_1, .ref s4_1, .ref s5_1, .ref s6_1, .ref s7_1, .int pa_1, .int lm_1, .ref s8_1, .ref s9_1, .ref s10_1, .int fm_1, .ref s11_1, .int z_28, .ref s12_1, .ref s13_1, .ref s14_1, .int rm_1, .ref s15_1, .ref s16_1, .ref s17_1, .ref s18_1])) (isr_ne fs14_1 hg0 (by decide))).trans es_f_23
    have hfr := fr_up (S := (sK [10, 22, 23, 24])) (e := .inr (3, [.ref s1_1, .ref s2_1, .ref s3_1, .ref s4_1, .ref s5_1, .ref s6_1, .ref s7_1, .int pa_1, .int lm_1, .ref s8_1, .ref s9_1, .ref s10_1, .int fm_1, .ref s11_1, .int z_28, .ref s12_1, .ref s13_1, .ref s14_1, .int rm_1, .ref s15_1, .ref s16_1, .ref s17_1, .ref s18_1])) hfr hg0 (by decide)
    generalize va_up f_23 g0 (.inr (3, [.ref s1_1, .ref s2_1, .ref s3_1, .ref s4_1, .ref s5_1, .ref s6_1, .ref s7_1, .int pa_1, .int lm_1, .ref s8_1, .ref s9_1, .ref s10_1, .int fm_1, .ref s11_1, .int z_28, .ref s12_1, .ref s13_1, .ref s14_1, .int rm_1, .ref s15_1, .ref s16_1, .ref s17_1, .ref s18_1])) = f_31 at hP hD hPI es_f_31 eq_32 eq_33 eq_34 hfr
    exact W.vret hx hb hr (fun t ht hW => ⟨⟨(), rfl, trivial, f_31, hPI, ⟨hfr, XL.mk hU fs13_1 fs14_1 eq_33 eq_34 (xl_new hxl hv0)⟩, by rw [ht]; exact hP, hD⟩, hS.F ht⟩) hS.2.2 dX3_tell_56
  · have c_5 := congrArg Int32.toInt c_5
    refine lv_aload_n hx hb dX3_tell_10 rfl (lv_at hl 0 rfl) ?_
    refine lv_iconst (v := 0) hx hb dX3_tell_11 (by decide) ?_
    obtain ⟨k_35, hk_35⟩ := va_plg hg0.1 e_1
    have hD9 := hD
    refine va_put (D := (dC, dI)) (ci := 3) (v := .int 0) (ty := .boolean) (C := RX3) (T := TX3) (N := 23) hx hb hts iX3_ tyX3 tyX3_ok nmX3 hown hK hP hD hS k_35 hk_35 rfl 18 (by decide) (hts (.fieldLink RX3 163 "FieldLeavesModel" "isRoom" "Z") (by decide +kernel)) (fun _ h9 => h9) rfl (by decide +kernel) rfl rfl (Nat.le_of_ble_eq_true rfl) dX3_tell_12 (fun H locs hP hD hS => ?_)
    have hP : va_P (dC, dI) vwCl (va_pl L (va_up f g0 (.inr (3, [.ref s1_1, .ref s2_1, .ref s3_1, .ref s4_1, .ref s5_1, .ref s6_1, .ref s7_1, .int pa_1, .int lm_1, .ref s8_1, .ref s9_1, .ref s10_1, .int fm_1, .ref s11_1, .int nm_1, .ref s12_1, .ref s13_1, .ref s14_1, .int 0, .ref s15_1, .ref s16_1, .ref s17_1, .ref s18_1])))) H := by rw [← va_pls hD9 hg0.1 hk_35 _]; exact hP
    have hD : va_D A (va_pl L (va_up f g0 (.inr (3, [.ref s1_1, .ref s2_1, .ref s3_1, .ref s4_1, .ref s5_1, .ref s6_1, .ref s7_1, .int pa_1, .int lm_1, .ref s8_1, .ref s9_1, .ref s10_1, .int fm_1, .ref s11_1, .int nm_1, .ref s12_1, .ref s13_1, .ref s14_1, .int 0, .ref s15_1, .ref s16_1, .ref s17_1, .ref s18_1])))) := by rw [← va_pls hD9 hg0.1 hk_35 _]; exact hD
    have hPI := hPI.put (e := .inr (3, [.ref s1_1, .ref s2_1, .ref s3_1, .ref s4_1, .ref s5_1, .ref s6_1, .ref s7_1, .int pa_1, .int lm_1, .ref s8_1, .ref s9_1, .ref s10_1, .int fm_1, .ref s11_1, .int nm_1, .ref s12_1, .ref s13_1, .ref s14_1, .int 0, .ref s15_1, .ref s16_1, .ref s17_1, .ref s18_1])) hg0 ⟨s1_1, s2_1, s3_1, s4_1, s5_1, s6_1, s7_1, pa_1, lm_1, s8_1, s9_1, s10_1, fm_1, s11_1, nm_1, s12_1, s13_1, s14_1, 0, s15_1, s16_1, s17_1, s18_1, rfl, fs1_1, fs2_1, fs3_1, fs4_1, fs5_1, fs6_1, fs7_1, flm_1, fs8_1, fs9_1, fs10_1, ffm_1, fs11_1, fnm_1, fs12_1, fs13_1, fs14_1, (Or.inr rfl), fs15_1, fs16_1, fs17_1, fs18_1⟩
    have es_f_36 : va_up f g0 (.inr (3, [.ref s1_1, .ref s2_1, .ref s3_1, .ref s4_1, .ref s5_1, .ref s6_1, .ref s7_1, .int pa_1, .int lm_1, .ref s8_1, .ref s9_1, .ref s10_1, .int fm_1, .ref s11_1, .int nm_1, .ref s12_1, .ref s13_1, .ref s14_1, .int 0, .ref s15_1, .ref s16_1, .ref s17_1, .ref s18_1])) g0 = .inr (3, [.ref s1_1, .ref s2_1, .ref s3_1, .ref s4_1, .ref s5_1, .ref s6_1, .ref s7_1, .int pa_1, .int lm_1, .ref s8_1, .ref s9_1, .ref s10_1, .int fm_1, .ref s11_1, .int nm_1, .ref s12_1, .ref s13_1, .ref s14_1, .int 0, .ref s15_1, .ref s16_1, .ref s17_1, .ref s18_1]) := va_up_self _ _ _
    have eq_37 := (va_up_ne f (.inr (3, [.ref s1_1, .ref s2_1, .ref s3_1, .ref s4_1, .ref s5_1, .ref s6_1, .ref s7_1, .int pa_1, .int lm_1, .ref s8_1, .ref s9_1, .ref s10_1, .int fm_1, .ref s11_1, .int nm_1, .ref s12_1, .ref s13_1, .ref s14_1, .int 0, .ref s15_1, .ref s16_1, .ref s17_1, .ref s18_1])) (isr_ne fs13_1 hg0 (by decide))).trans e_2
    have eq_38 := (va_up_ne f (.inr (3, [.ref s1_1, .ref s2_1, .ref s3_1, .ref s4_1, .ref s5_1, .ref s6_1, .ref s7_1, .int pa_1, .int lm_1, .ref s8_1, .ref s9_1, .ref s10_1, .int fm_1, .ref s11_1, .int nm_1, .ref s12_1, .ref s13_1, .ref s14_1, .int 0, .ref s15_1, .ref s16_1, .ref s17_1, .ref s18_1])) (isr_ne fs14_1 hg0 (by decide))).trans e_3
    have hfr := fr_up (S := (sK [10, 22, 23, 24])) (e := .inr (3, [.ref s1_1, .ref s2_1, .ref s3_1, .ref s4_1, .ref s5_1, .ref s6_1, .ref s7_1, .int pa_1, .int lm_1, .ref s8_1, .ref s9_1, .ref s10_1, .int fm_1, .ref s11_1, .int nm_1, .ref s12_1, .ref s13_1, .ref s14_1, .int 0, .ref s15_1, .ref s16_1, .ref s17_1, .ref s18_1])) hfr hg0 (by decide)
    generalize va_up f g0 (.inr (3, [.ref s1_1, .ref s2_1, .ref s3_1, .ref s4_1, .ref s5_1, .ref s6_1, .ref s7_1, .int pa_1, .int lm_1, .ref s8_1, .ref s9_1, .ref s10_1, .int fm_1, .ref s11_1, .int nm_1, .ref s12_1, .ref s13_1, .ref s14_1, .int 0, .ref s15_1, .ref s16_1, .ref s17_1, .ref s18_1])) = f_36 at hP hD hPI es_f_36 eq_37 eq_38 hfr
    exact W.vret hx hb hr (fun t ht hW => ⟨⟨(), rfl, trivial, f_36, hPI, ⟨hfr, XL.mk hU fs13_1 fs14_1 eq_37 eq_38 (hxl)⟩, by rw [ht]; exact hP, hD⟩, hS.F ht⟩) hS.2.2 dX3_tell_15
