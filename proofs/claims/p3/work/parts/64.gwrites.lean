set_option maxRecDepth 20000 in
theorem in_g_X3_clear_X3 : ∀ w ∈ u_ws RX3 TX3 23, w ∈ wsX3_clear := by decide +kernel
set_option maxRecDepth 100000 in
set_option maxHeartbeats 4000000 in
theorem g_X3_clear (l : Launch) (dC : Nat → ClassId) (dI : Nat → Nat → Nat) (TT : Nat × Nat × Nat) (sz : Nat) (kI kJ kZ : ClassId) (K : Nat → Nat) (L : List Nat) (f : Nat → va_E) (hPI : PR kI kJ kZ K L f) (g0 : Nat) (hg0 : isr K L 10 g0) (p0 : Int32) (hU : UN K L) (nE nB : Nat) (hGX : GX kI kJ K L f nE nB) : Met l yX3_clear wsX3_clear ({ frames := 2, cells := 0, slots := 0, locals := 45 } : Room) (va_Pc [.ref g0, .int p0] (pr dC dI (va_pl L f) (va_pl L f) [(kI, .int), (kJ, .long), (kZ, .boolean)] sz TT)) (va_Qi (fun (r : Int32) (u : Unit) => True) (fun (_ : Unit) t => ∃ f2 : Nat → va_E, PR kI kJ kZ K L f2 ∧ (FR (sK [11]) K L f f2 ∧ GX kI kJ K L f2 (nE + 0) nB) ∧ va_P (dC, dI) vwCl (va_pl L f2) t.heap ∧ va_D (va_A (va_pl L f) sz) (va_pl L f2)) (va_A (va_pl L f) sz)) 0 0 (va_A (va_pl L f) sz) := by
  refine Met.ofW (cc := cX3_clear) (maxL := 3) (ret := (some .int)) (by decide) rfl ?_
  intro p e s m args below meth c s₁ B hml hv
  obtain ⟨rfl, hsz, hP, hK, hD0, hst⟩ := hv
  have hx := B.exec
  have hb := B.bytes
  have hr := B.returns
  have hts := atoms_spec (ws := wsX3_clear) B.pre
  have hown : s.vm.findClass RX3 = some m.cls := findClass_of_methodNamed B.named
  have hlocks := B.notSynchronized
  have iX3_ := in_g_X3_clear_X3
  subst hsz
  have hD := hD0.self (sz := s.heap.size)
  generalize hAe : va_A (va_pl L f) s.heap.size = A at hD hst ⊢
  have hA : ∀ q : Nat, s.heap.size ≤ q → A q := fun q h => by rw [← hAe]; exact Or.inr h
  have hS : va_S A s.heap s.heap [] := va_S.rf
  have hl := lv_entry ([.ref g0, .int p0]) (n := 3) (Nat.le_of_ble_eq_true rfl)
  rw [lg_entry_eq]
  generalize (lg_sl ([.ref g0, .int p0]) ++ List.replicate (3 - (lg_sl ([.ref g0, .int p0])).length) Slot.unset).toArray = ls at hl ⊢
  have hl : lv_has ls 3 [(0, .ref g0), (1, .int p0)] := hl
  have km1_ : Int32.toInt (-1) = -1 := by decide
  have k0_ : Int32.toInt 0 = 0 := by decide
  have k1_ : Int32.toInt 1 = 1 := by decide
  have hfr : FR (sK [11]) K L f f := FR.rf
  obtain ⟨fS, fC, fF, hSV, hGI⟩ := id hGX
  obtain ⟨s1_1, s2_1, s3_1, s4_1, s5_1, s6_1, s7_1, pa_1, lm_1, s8_1, s9_1, s10_1, fm_1, s11_1, nm_1, s12_1, s13_1, s14_1, rm_1, s15_1, s16_1, s17_1, s18_1, e_1, fs1_1, fs2_1, fs3_1, fs4_1, fs5_1, fs6_1, fs7_1, flm_1, fs8_1, fs9_1, fs10_1, ffm_1, fs11_1, fnm_1, fs12_1, fs13_1, fs14_1, frm_1, fs15_1, fs16_1, fs17_1, fs18_1⟩ := hPI.a10 hg0
  obtain ⟨k_1, hk_1⟩ := va_plg hg0.1 e_1
  have eg11 := hSV.1 s1_1 fs1_1
  have fg11 := (hPI.a11 fs1_1).of eg11
  have eg12 := hSV.2.1 s2_1 fs2_1
  have fg12 := (hPI.a12 fs2_1).of eg12
  have eg13 := hSV.2.2 s3_1 fs3_1
  have fg13 := (hPI.a13 fs3_1).of eg13
  refine lv_iload_n hx hb dX3_clear_0 rfl (lv_at hl 1 rfl) ?_
  refine va_calli (va_runS (As := [.int p0]) (rest := []) ⟨hx, hb, hml, hown, hts⟩ (c_X3_isSlot l dC dI TT s.heap.size p0) (va_cwS 1 hts gX3_clear_X3_isSlot rfl rfl rfl (by decide +kernel) ⟨Nat.le_of_ble_eq_true rfl, Nat.le_of_ble_eq_true rfl⟩) (pr_S (ws := []) (wA := []) (tys := []) vp_nil (hK.sub [] rfl) vd_nil hst hS (ro_free hS hA)) rfl rfl hl.1 rfl (lv_room (Nat.le_of_ble_eq_true rfl)) dX3_clear_1 ⟨Nat.le_of_ble_eq_true rfl, Nat.le_of_ble_eq_true rfl⟩) hS (fun q _ h => (ro_free hS hA) q h) (ro_free hS hA) (fun r_2 u t H1 locs ht hvm hw hB hz1 hk1 hS => ?_)
  have hP := ro_keep hP hk1
  generalize H1 = H at hP hS ⊢
  rcases hw with ⟨rfl, hp_3⟩ | ⟨rfl, hp_3⟩
  · refine lv_if_ne (tgt := 9) hx hb dX3_clear_4 (by decide) (fun _ => ?_) (fun c9 => absurd c9 (by decide))
    refine lv_aload_n hx hb dX3_clear_9 rfl (lv_at hl 0 rfl) ?_
    obtain ⟨k_4, hk_4⟩ := va_plg hg0.1 e_1
    refine va_get (D := (dC, dI)) (ci := 3) (v := .ref s1_1) (C := RX3) (T := TX3) (N := 23) hx hb hts iX3_ hown hK hP k_4 hk_4 rfl 0 (by decide) (hts (.fieldLink RX3 7 "FieldLeavesModel" "slot" "[I") (by decide +kernel)) (fun _ h9 => h9) rfl dX3_clear_10 ?_
    refine lv_iload_n hx hb dX3_clear_13 rfl (lv_at hl 1 rfl) ?_
    obtain ⟨k_5, hk_5⟩ := va_plg fs1_1.1 eg11
    have h_5 : vp_in p0 12 := (vp_in_iff.mpr (by constructor <;> omega))
    refine va_iald hx hb hK hP k_5 0 hk_5 rfl h_5 dX3_clear_14 ?_
    refine lv_topi (fun z_5 ez_5 => ?_)
    have fz_5 := fg11 _ (vp_lt h_5)
    rw [← ez_5] at fz_5
    refine lv_iconst (v := (-1)) hx hb dX3_clear_15 (by decide) ?_
    refine lv_icmp_ne (tgt := 23) hx hb dX3_clear_16 (by decide) (fun c_6 => ?_) (fun c_6 => ?_)
    · have c_6 := mt Int32.toInt_inj.mp c_6
      refine lv_iconst (v := 1) hx hb dX3_clear_23 (by decide) ?_
      refine lv_istore_n (lv' := [(2, .int 1), (0, .ref g0), (1, .int p0)]) hx hb dX3_clear_24 rfl hl (by decide) rfl (fun ls hl => ?_)
      refine lv_aload_n hx hb dX3_clear_25 rfl (lv_at hl 1 rfl) ?_
      obtain ⟨k_7, hk_7⟩ := va_plg hg0.1 e_1
      refine va_get (D := (dC, dI)) (ci := 3) (v := .ref s1_1) (C := RX3) (T := TX3) (N := 23) hx hb hts iX3_ hown hK hP k_7 hk_7 rfl 0 (by decide) (hts (.fieldLink RX3 7 "FieldLeavesModel" "slot" "[I") (by decide +kernel)) (fun _ h9 => h9) rfl dX3_clear_26 ?_
      refine lv_iload_n hx hb dX3_clear_29 rfl (lv_at hl 2 rfl) ?_
      refine lv_iconst (v := (-1)) hx hb dX3_clear_30 (by decide) ?_
      obtain ⟨k_8, hk_8⟩ := va_plg fs1_1.1 eg11
      have h_8 : vp_in p0 12 := (vp_in_iff.mpr (by constructor <;> omega))
      have fw_8 := updS (P := fun v => -1 ≤ v.toInt ∧ v.toInt < 6400) (k := Int32.toNatClampNeg p0) (v := (-1)) fg11 (by omega)
      have hD9 := hD
      refine va_iast hx hb hK hP hD hS k_8 0 hk_8 rfl h_8 dX3_clear_31 (fun H locs hP hD hS => ?_)
      have hP : va_P (dC, dI) vwCl (va_pl L (va_up f s1_1 (.inl (kI, 12, .inl (upd fS (Int32.toNatClampNeg p0) (-1)))))) H := by rw [← va_pls hD9 fs1_1.1 hk_8 _]; exact hP
      have hD : va_D A (va_pl L (va_up f s1_1 (.inl (kI, 12, .inl (upd fS (Int32.toNatClampNeg p0) (-1)))))) := by rw [← va_pls hD9 fs1_1.1 hk_8 _]; exact hD
      have hPI := hPI.put (e := .inl (kI, 12, .inl (upd fS (Int32.toNatClampNeg p0) (-1)))) fs1_1 ⟨_, rfl, fw_8⟩
      have es_f_9 : va_up f s1_1 (.inl (kI, 12, .inl (upd fS (Int32.toNatClampNeg p0) (-1)))) s1_1 = .inl (kI, 12, .inl (upd fS (Int32.toNatClampNeg p0) (-1))) := va_up_self _ _ _
      have eq_10 := (va_up_ne f (.inl (kI, 12, .inl (upd fS (Int32.toNatClampNeg p0) (-1)))) (isr_ne hg0 fs1_1 (by decide))).trans e_1
      have eq_11 := (va_up_ne f (.inl (kI, 12, .inl (upd fS (Int32.toNatClampNeg p0) (-1)))) (isr_ne fs2_1 fs1_1 (by decide))).trans eg12
      have eq_12 := (va_up_ne f (.inl (kI, 12, .inl (upd fS (Int32.toNatClampNeg p0) (-1)))) (isr_ne fs3_1 fs1_1 (by decide))).trans eg13
      have hfr := fr_up (S := (sK [11])) (e := .inl (kI, 12, .inl (upd fS (Int32.toNatClampNeg p0) (-1)))) hfr fs1_1 (by decide)
      generalize va_up f s1_1 (.inl (kI, 12, .inl (upd fS (Int32.toNatClampNeg p0) (-1)))) = f_9 at hP hD hPI es_f_9 eq_10 eq_11 eq_12 hfr
      refine lv_iload_n hx hb dX3_clear_32 rfl (lv_at hl 0 rfl) ?_
      exact W.iret (v := 1) hx hb hr (fun t ht hW => ⟨⟨1, (), rfl, trivial, f_9, hPI, ⟨hfr, ⟨_, _, _, SV.mk hU fs1_1 fs2_1 fs3_1 es_f_9 eq_11 eq_12, gi_slot hGI (fun h9 => absurd (by decide) h9)⟩⟩, by rw [ht]; exact hP, hD⟩, hS.F ht⟩) hS.2.2 dX3_clear_33
    · have c_6 := congrArg Int32.toInt c_6
      refine lv_iconst (v := 0) hx hb dX3_clear_19 (by decide) ?_
      refine lv_goto (tgt := 24) hx hb dX3_clear_20 (by decide) ?_
      refine lv_istore_n (lv' := [(2, .int 0), (0, .ref g0), (1, .int p0)]) hx hb dX3_clear_24 rfl hl (by decide) rfl (fun ls hl => ?_)
      refine lv_aload_n hx hb dX3_clear_25 rfl (lv_at hl 1 rfl) ?_
      obtain ⟨k_13, hk_13⟩ := va_plg hg0.1 e_1
      refine va_get (D := (dC, dI)) (ci := 3) (v := .ref s1_1) (C := RX3) (T := TX3) (N := 23) hx hb hts iX3_ hown hK hP k_13 hk_13 rfl 0 (by decide) (hts (.fieldLink RX3 7 "FieldLeavesModel" "slot" "[I") (by decide +kernel)) (fun _ h9 => h9) rfl dX3_clear_26 ?_
      refine lv_iload_n hx hb dX3_clear_29 rfl (lv_at hl 2 rfl) ?_
      refine lv_iconst (v := (-1)) hx hb dX3_clear_30 (by decide) ?_
      obtain ⟨k_14, hk_14⟩ := va_plg fs1_1.1 eg11
      have h_14 : vp_in p0 12 := (vp_in_iff.mpr (by constructor <;> omega))
      have fw_14 := updS (P := fun v => -1 ≤ v.toInt ∧ v.toInt < 6400) (k := Int32.toNatClampNeg p0) (v := (-1)) fg11 (by omega)
      have hD9 := hD
      refine va_iast hx hb hK hP hD hS k_14 0 hk_14 rfl h_14 dX3_clear_31 (fun H locs hP hD hS => ?_)
      have hP : va_P (dC, dI) vwCl (va_pl L (va_up f s1_1 (.inl (kI, 12, .inl (upd fS (Int32.toNatClampNeg p0) (-1)))))) H := by rw [← va_pls hD9 fs1_1.1 hk_14 _]; exact hP
      have hD : va_D A (va_pl L (va_up f s1_1 (.inl (kI, 12, .inl (upd fS (Int32.toNatClampNeg p0) (-1)))))) := by rw [← va_pls hD9 fs1_1.1 hk_14 _]; exact hD
      have hPI := hPI.put (e := .inl (kI, 12, .inl (upd fS (Int32.toNatClampNeg p0) (-1)))) fs1_1 ⟨_, rfl, fw_14⟩
      have es_f_15 : va_up f s1_1 (.inl (kI, 12, .inl (upd fS (Int32.toNatClampNeg p0) (-1)))) s1_1 = .inl (kI, 12, .inl (upd fS (Int32.toNatClampNeg p0) (-1))) := va_up_self _ _ _
      have eq_16 := (va_up_ne f (.inl (kI, 12, .inl (upd fS (Int32.toNatClampNeg p0) (-1)))) (isr_ne hg0 fs1_1 (by decide))).trans e_1
      have eq_17 := (va_up_ne f (.inl (kI, 12, .inl (upd fS (Int32.toNatClampNeg p0) (-1)))) (isr_ne fs2_1 fs1_1 (by decide))).trans eg12
      have eq_18 := (va_up_ne f (.inl (kI, 12, .inl (upd fS (Int32.toNatClampNeg p0) (-1)))) (isr_ne fs3_1 fs1_1 (by decide))).trans eg13
      have hfr := fr_up (S := (sK [11])) (e := .inl (kI, 12, .inl (upd fS (Int32.toNatClampNeg p0) (-1)))) hfr fs1_1 (by decide)
      generalize va_up f s1_1 (.inl (kI, 12, .inl (upd fS (Int32.toNatClampNeg p0) (-1)))) = f_15 at hP hD hPI es_f_15 eq_16 eq_17 eq_18 hfr
      refine lv_iload_n hx hb dX3_clear_32 rfl (lv_at hl 0 rfl) ?_
      exact W.iret (v := 0) hx hb hr (fun t ht hW => ⟨⟨0, (), rfl, trivial, f_15, hPI, ⟨hfr, ⟨_, _, _, SV.mk hU fs1_1 fs2_1 fs3_1 es_f_15 eq_17 eq_18, gi_slot hGI (fun h9 => absurd (by decide) h9)⟩⟩, by rw [ht]; exact hP, hD⟩, hS.F ht⟩) hS.2.2 dX3_clear_33
  · refine lv_if_ne (tgt := 9) hx hb dX3_clear_4 (by decide) (fun c9 => absurd c9 (by decide)) (fun _ => ?_)
    refine lv_iconst (v := (-1)) hx hb dX3_clear_7 (by decide) ?_
    exact W.iret (v := (-1)) hx hb hr (fun t ht hW => ⟨⟨(-1), (), rfl, trivial, f, hPI, ⟨hfr, hGX⟩, by rw [ht]; exact hP, hD⟩, hS.F ht⟩) hS.2.2 dX3_clear_8
set_option maxRecDepth 20000 in
theorem in_g_X3_share_X3 : ∀ w ∈ u_ws RX3 TX3 23, w ∈ wsX3_share := by decide +kernel
set_option maxRecDepth 100000 in
set_option maxHeartbeats 4000000 in
theorem g_X3_share (l : Launch) (dC : Nat → ClassId) (dI : Nat → Nat → Nat) (TT : Nat × Nat × Nat) (sz : Nat) (kI kJ kZ : ClassId) (K : Nat → Nat) (L : List Nat) (f : Nat → va_E) (hPI : PR kI kJ kZ K L f) (g0 : Nat) (hg0 : isr K L 10 g0) (p0 : Int32) (p1 : Int32) (hU : UN K L) (nE nB : Nat) (hGX : GX kI kJ K L f nE nB) : Met l yX3_share wsX3_share ({ frames := 2, cells := 0, slots := 0, locals := 45 } : Room) (va_Pc [.ref g0, .int p0, .int p1] (pr dC dI (va_pl L f) (va_pl L f) [(kI, .int), (kJ, .long), (kZ, .boolean)] sz TT)) (va_Qi (fun (r : Int32) (u : Unit) => r = sp_share p0 p1) (fun (_ : Unit) t => ∃ f2 : Nat → va_E, PR kI kJ kZ K L f2 ∧ (FR (sK [11]) K L f f2 ∧ GX kI kJ K L f2 (nE + 0) nB) ∧ va_P (dC, dI) vwCl (va_pl L f2) t.heap ∧ va_D (va_A (va_pl L f) sz) (va_pl L f2)) (va_A (va_pl L f) sz)) 0 0 (va_A (va_pl L f) sz) := by
  refine Met.ofW (cc := cX3_share) (maxL := 3) (ret := (some .int)) (by decide) rfl ?_
  intro p e s m args below meth c s₁ B hml hv
  obtain ⟨rfl, hsz, hP, hK, hD0, hst⟩ := hv
  have hx := B.exec
  have hb := B.bytes
  have hr := B.returns
  have hts := atoms_spec (ws := wsX3_share) B.pre
  have hown : s.vm.findClass RX3 = some m.cls := findClass_of_methodNamed B.named
  have hlocks := B.notSynchronized
  have iX3_ := in_g_X3_share_X3
  subst hsz
  have hD := hD0.self (sz := s.heap.size)
  generalize hAe : va_A (va_pl L f) s.heap.size = A at hD hst ⊢
  have hA : ∀ q : Nat, s.heap.size ≤ q → A q := fun q h => by rw [← hAe]; exact Or.inr h
  have hS : va_S A s.heap s.heap [] := va_S.rf
  have hl := lv_entry ([.ref g0, .int p0, .int p1]) (n := 3) (Nat.le_of_ble_eq_true rfl)
  rw [lg_entry_eq]
  generalize (lg_sl ([.ref g0, .int p0, .int p1]) ++ List.replicate (3 - (lg_sl ([.ref g0, .int p0, .int p1])).length) Slot.unset).toArray = ls at hl ⊢
  have hl : lv_has ls 3 [(0, .ref g0), (1, .int p0), (2, .int p1)] := hl
  have km1_ : Int32.toInt (-1) = -1 := by decide
  have k1_ : Int32.toInt 1 = 1 := by decide
  have hfr : FR (sK [11]) K L f f := FR.rf
  obtain ⟨fS, fC, fF, hSV, hGI⟩ := id hGX
  obtain ⟨s1_1, s2_1, s3_1, s4_1, s5_1, s6_1, s7_1, pa_1, lm_1, s8_1, s9_1, s10_1, fm_1, s11_1, nm_1, s12_1, s13_1, s14_1, rm_1, s15_1, s16_1, s17_1, s18_1, e_1, fs1_1, fs2_1, fs3_1, fs4_1, fs5_1, fs6_1, fs7_1, flm_1, fs8_1, fs9_1, fs10_1, ffm_1, fs11_1, fnm_1, fs12_1, fs13_1, fs14_1, frm_1, fs15_1, fs16_1, fs17_1, fs18_1⟩ := hPI.a10 hg0
  obtain ⟨k_1, hk_1⟩ := va_plg hg0.1 e_1
  have eg11 := hSV.1 s1_1 fs1_1
  have fg11 := (hPI.a11 fs1_1).of eg11
  have eg12 := hSV.2.1 s2_1 fs2_1
  have fg12 := (hPI.a12 fs2_1).of eg12
  have eg13 := hSV.2.2 s3_1 fs3_1
  have fg13 := (hPI.a13 fs3_1).of eg13
  refine lv_iload_n hx hb dX3_share_0 rfl (lv_at hl 1 rfl) ?_
  refine va_calli (va_runS (As := [.int p0]) (rest := []) ⟨hx, hb, hml, hown, hts⟩ (c_X3_isSlot l dC dI TT s.heap.size p0) (va_cwS 1 hts gX3_share_X3_isSlot rfl rfl rfl (by decide +kernel) ⟨Nat.le_of_ble_eq_true rfl, Nat.le_of_ble_eq_true rfl⟩) (pr_S (ws := []) (wA := []) (tys := []) vp_nil (hK.sub [] rfl) vd_nil hst hS (ro_free hS hA)) rfl rfl hl.1 rfl (lv_room (Nat.le_of_ble_eq_true rfl)) dX3_share_1 ⟨Nat.le_of_ble_eq_true rfl, Nat.le_of_ble_eq_true rfl⟩) hS (fun q _ h => (ro_free hS hA) q h) (ro_free hS hA) (fun r_2 u t H1 locs ht hvm hw hB hz1 hk1 hS => ?_)
  have hP := ro_keep hP hk1
  generalize H1 = H at hP hS ⊢
  rcases hw with ⟨rfl, hp_3⟩ | ⟨rfl, hp_3⟩
  · refine lv_if_eq (tgt := 14) hx hb dX3_share_4 (by decide) (fun c9 => absurd c9 (by decide)) (fun _ => ?_)
    refine lv_iload_n hx hb dX3_share_7 rfl (lv_at hl 2 rfl) ?_
    refine va_calli (va_runS (As := [.int p1]) (rest := []) ⟨hx, hb, hml, hown, hts⟩ (c_X3_isSlot l dC dI TT H.size p1) (va_cwS 1 hts gX3_share_X3_isSlot rfl rfl rfl (by decide +kernel) ⟨Nat.le_of_ble_eq_true rfl, Nat.le_of_ble_eq_true rfl⟩) (pr_S (ws := []) (wA := []) (tys := []) vp_nil (hK.sub [] rfl) vd_nil hst hS (ro_free hS hA)) rfl rfl hl.1 rfl (lv_room (Nat.le_of_ble_eq_true rfl)) dX3_share_8 ⟨Nat.le_of_ble_eq_true rfl, Nat.le_of_ble_eq_true rfl⟩) hS (fun q _ h => (ro_free hS hA) q h) (ro_free hS hA) (fun r_4 u t H1 locs ht hvm hw hB hz1 hk1 hS => ?_)
    have hP := ro_keep hP hk1
    generalize H1 = H at hP hS ⊢
    rcases hw with ⟨rfl, hp_5⟩ | ⟨rfl, hp_5⟩
    · refine lv_if_ne (tgt := 16) hx hb dX3_share_11 (by decide) (fun _ => ?_) (fun c9 => absurd c9 (by decide))
      refine lv_aload_n hx hb dX3_share_16 rfl (lv_at hl 0 rfl) ?_
      obtain ⟨k_6, hk_6⟩ := va_plg hg0.1 e_1
      refine va_get (D := (dC, dI)) (ci := 3) (v := .ref s1_1) (C := RX3) (T := TX3) (N := 23) hx hb hts iX3_ hown hK hP k_6 hk_6 rfl 0 (by decide) (hts (.fieldLink RX3 7 "FieldLeavesModel" "slot" "[I") (by decide +kernel)) (fun _ h9 => h9) rfl dX3_share_17 ?_
      refine lv_iload_n hx hb dX3_share_20 rfl (lv_at hl 2 rfl) ?_
      refine lv_aload_n hx hb dX3_share_21 rfl (lv_at hl 0 rfl) ?_
      obtain ⟨k_7, hk_7⟩ := va_plg hg0.1 e_1
      refine va_get (D := (dC, dI)) (ci := 3) (v := .ref s1_1) (C := RX3) (T := TX3) (N := 23) hx hb hts iX3_ hown hK hP k_7 hk_7 rfl 0 (by decide) (hts (.fieldLink RX3 7 "FieldLeavesModel" "slot" "[I") (by decide +kernel)) (fun _ h9 => h9) rfl dX3_share_22 ?_
      refine lv_iload_n hx hb dX3_share_25 rfl (lv_at hl 1 rfl) ?_
      obtain ⟨k_8, hk_8⟩ := va_plg fs1_1.1 eg11
      have h_8 : vp_in p0 12 := (vp_in_iff.mpr (by constructor <;> omega))
      refine va_iald hx hb hK hP k_8 0 hk_8 rfl h_8 dX3_share_26 ?_
      refine lv_topi (fun z_8 ez_8 => ?_)
      have fz_8 := fg11 _ (vp_lt h_8)
      rw [← ez_8] at fz_8
      obtain ⟨k_9, hk_9⟩ := va_plg fs1_1.1 eg11
      have h_9 : vp_in p1 12 := (vp_in_iff.mpr (by constructor <;> omega))
      have fw_9 := updS (P := fun v => -1 ≤ v.toInt ∧ v.toInt < 6400) (k := Int32.toNatClampNeg p1) (v := z_8) fg11 (by omega)
      have hD9 := hD
      refine va_iast hx hb hK hP hD hS k_9 0 hk_9 rfl h_9 dX3_share_27 (fun H locs hP hD hS => ?_)
      have hP : va_P (dC, dI) vwCl (va_pl L (va_up f s1_1 (.inl (kI, 12, .inl (upd fS (Int32.toNatClampNeg p1) z_8))))) H := by rw [← va_pls hD9 fs1_1.1 hk_9 _]; exact hP
      have hD : va_D A (va_pl L (va_up f s1_1 (.inl (kI, 12, .inl (upd fS (Int32.toNatClampNeg p1) z_8))))) := by rw [← va_pls hD9 fs1_1.1 hk_9 _]; exact hD
      have hPI := hPI.put (e := .inl (kI, 12, .inl (upd fS (Int32.toNatClampNeg p1) z_8))) fs1_1 ⟨_, rfl, fw_9⟩
      have es_f_10 : va_up f s1_1 (.inl (kI, 12, .inl (upd fS (Int32.toNatClampNeg p1) z_8))) s1_1 = .inl (kI, 12, .inl (upd fS (Int32.toNatClampNeg p1) z_8)) := va_up_self _ _ _
      have eq_11 := (va_up_ne f (.inl (kI, 12, .inl (upd fS (Int32.toNatClampNeg p1) z_8))) (isr_ne hg0 fs1_1 (by decide))).trans e_1
      have eq_12 := (va_up_ne f (.inl (kI, 12, .inl (upd fS (Int32.toNatClampNeg p1) z_8))) (isr_ne fs2_1 fs1_1 (by decide))).trans eg12
      have eq_13 := (va_up_ne f (.inl (kI, 12, .inl (upd fS (Int32.toNatClampNeg p1) z_8))) (isr_ne fs3_1 fs1_1 (by decide))).trans eg13
      have hfr := fr_up (S := (sK [11])) (e := .inl (kI, 12, .inl (upd fS (Int32.toNatClampNeg p1) z_8))) hfr fs1_1 (by decide)
      generalize va_up f s1_1 (.inl (kI, 12, .inl (upd fS (Int32.toNatClampNeg p1) z_8))) = f_10 at hP hD hPI es_f_10 eq_11 eq_12 eq_13 hfr
      refine lv_iconst (v := 1) hx hb dX3_share_28 (by decide) ?_
      exact W.iret (v := 1) hx hb hr (fun t ht hW => ⟨⟨1, (), rfl, (show 1 = sp_share p0 p1 from by unfold sp_share; (repeat' split) <;> first | rfl | (exfalso; omega)), f_10, hPI, ⟨hfr, ⟨_, _, _, SV.mk hU fs1_1 fs2_1 fs3_1 es_f_10 eq_12 eq_13, gi_slot hGI (fun h9 A hA => by rw [ez_8] at h9 ⊢; exact hA.1 _ (vp_lt (vp_in_iff.mpr (by constructor <;> omega))) h9)⟩⟩, by rw [ht]; exact hP, hD⟩, hS.F ht⟩) hS.2.2 dX3_share_29
    · refine lv_if_ne (tgt := 16) hx hb dX3_share_11 (by decide) (fun c9 => absurd c9 (by decide)) (fun _ => ?_)
      refine lv_iconst (v := (-1)) hx hb dX3_share_14 (by decide) ?_
      exact W.iret (v := (-1)) hx hb hr (fun t ht hW => ⟨⟨(-1), (), rfl, (show (-1) = sp_share p0 p1 from by unfold sp_share; (repeat' split) <;> first | rfl | (exfalso; omega)), f, hPI, ⟨hfr, hGX⟩, by rw [ht]; exact hP, hD⟩, hS.F ht⟩) hS.2.2 dX3_share_15
  · refine lv_if_eq (tgt := 14) hx hb dX3_share_4 (by decide) (fun _ => ?_) (fun c9 => absurd c9 (by decide))
    refine lv_iconst (v := (-1)) hx hb dX3_share_14 (by decide) ?_
    exact W.iret (v := (-1)) hx hb hr (fun t ht hW => ⟨⟨(-1), (), rfl, (show (-1) = sp_share p0 p1 from by unfold sp_share; (repeat' split) <;> first | rfl | (exfalso; omega)), f, hPI, ⟨hfr, hGX⟩, by rw [ht]; exact hP, hD⟩, hS.F ht⟩) hS.2.2 dX3_share_15
set_option maxRecDepth 20000 in
theorem in_g_X3_set_X3 : ∀ w ∈ u_ws RX3 TX3 23, w ∈ wsX3_set := by decide +kernel
set_option maxRecDepth 100000 in
set_option maxHeartbeats 4000000 in
theorem g_X3_set (l : Launch) (dC : Nat → ClassId) (dI : Nat → Nat → Nat) (TT : Nat × Nat × Nat) (sz : Nat) (kI kJ kZ : ClassId) (K : Nat → Nat) (L : List Nat) (f : Nat → va_E) (hPI : PR kI kJ kZ K L f) (g0 : Nat) (hg0 : isr K L 10 g0) (p0 : Int32) (p1 : Int32) (p2 : Int64) (hU : UN K L) (nE nB : Nat) (hGX : GX kI kJ K L f nE nB) : Met l yX3_set wsX3_set ({ frames := 2, cells := 0, slots := 0, locals := 45 } : Room) (va_Pc [.ref g0, .int p0, .int p1, .long p2] (pr dC dI (va_pl L f) (va_pl L f) [(kI, .int), (kJ, .long), (kZ, .boolean)] sz TT)) (va_Qi (fun (r : Int32) (u : Unit) => True) (fun (_ : Unit) t => ∃ f2 : Nat → va_E, PR kI kJ kZ K L f2 ∧ (FR (sK [13]) K L f f2 ∧ GX kI kJ K L f2 (nE + 0) nB) ∧ va_P (dC, dI) vwCl (va_pl L f2) t.heap ∧ va_D (va_A (va_pl L f) sz) (va_pl L f2)) (va_A (va_pl L f) sz)) 0 0 (va_A (va_pl L f) sz) := by
  refine Met.ofW (cc := cX3_set) (maxL := 5) (ret := (some .int)) (by decide) rfl ?_
  intro p e s m args below meth c s₁ B hml hv
  obtain ⟨rfl, hsz, hP, hK, hD0, hst⟩ := hv
  have hx := B.exec
  have hb := B.bytes
  have hr := B.returns
  have hts := atoms_spec (ws := wsX3_set) B.pre
  have hown : s.vm.findClass RX3 = some m.cls := findClass_of_methodNamed B.named
  have hlocks := B.notSynchronized
  have iX3_ := in_g_X3_set_X3
  subst hsz
  have hD := hD0.self (sz := s.heap.size)
  generalize hAe : va_A (va_pl L f) s.heap.size = A at hD hst ⊢
  have hA : ∀ q : Nat, s.heap.size ≤ q → A q := fun q h => by rw [← hAe]; exact Or.inr h
  have hS : va_S A s.heap s.heap [] := va_S.rf
  have hl := lv_entry ([.ref g0, .int p0, .int p1, .long p2]) (n := 5) (Nat.le_of_ble_eq_true rfl)
  rw [lg_entry_eq]
  generalize (lg_sl ([.ref g0, .int p0, .int p1, .long p2]) ++ List.replicate (5 - (lg_sl ([.ref g0, .int p0, .int p1, .long p2])).length) Slot.unset).toArray = ls at hl ⊢
  have hl : lv_has ls 5 [(0, .ref g0), (1, .int p0), (2, .int p1), (3, .long p2)] := hl
  have km17_ : Int32.toInt (-17) = -17 := by decide
  have km14_ : Int32.toInt (-14) = -14 := by decide
  have km11_ : Int32.toInt (-11) = -11 := by decide
  have km1_ : Int32.toInt (-1) = -1 := by decide
  have k1_ : Int32.toInt 1 = 1 := by decide
  have k13_ : Int32.toInt 13 = 13 := by decide
  have k16_ : Int32.toInt 16 = 16 := by decide
  have hfr : FR (sK [13]) K L f f := FR.rf
  obtain ⟨fS, fC, fF, hSV, hGI⟩ := id hGX
  obtain ⟨s1_1, s2_1, s3_1, s4_1, s5_1, s6_1, s7_1, pa_1, lm_1, s8_1, s9_1, s10_1, fm_1, s11_1, nm_1, s12_1, s13_1, s14_1, rm_1, s15_1, s16_1, s17_1, s18_1, e_1, fs1_1, fs2_1, fs3_1, fs4_1, fs5_1, fs6_1, fs7_1, flm_1, fs8_1, fs9_1, fs10_1, ffm_1, fs11_1, fnm_1, fs12_1, fs13_1, fs14_1, frm_1, fs15_1, fs16_1, fs17_1, fs18_1⟩ := hPI.a10 hg0
  obtain ⟨k_1, hk_1⟩ := va_plg hg0.1 e_1
  have eg11 := hSV.1 s1_1 fs1_1
  have fg11 := (hPI.a11 fs1_1).of eg11
  have eg12 := hSV.2.1 s2_1 fs2_1
  have fg12 := (hPI.a12 fs2_1).of eg12
  have eg13 := hSV.2.2 s3_1 fs3_1
  have fg13 := (hPI.a13 fs3_1).of eg13
  refine lv_iload_n hx hb dX3_set_0 rfl (lv_at hl 1 rfl) ?_
  refine va_calli (va_runS (As := [.int p0]) (rest := []) ⟨hx, hb, hml, hown, hts⟩ (c_X3_isSlot l dC dI TT s.heap.size p0) (va_cwS 1 hts gX3_set_X3_isSlot rfl rfl rfl (by decide +kernel) ⟨Nat.le_of_ble_eq_true rfl, Nat.le_of_ble_eq_true rfl⟩) (pr_S (ws := []) (wA := []) (tys := []) vp_nil (hK.sub [] rfl) vd_nil hst hS (ro_free hS hA)) rfl rfl hl.1 rfl (lv_room (Nat.le_of_ble_eq_true rfl)) dX3_set_1 ⟨Nat.le_of_ble_eq_true rfl, Nat.le_of_ble_eq_true rfl⟩) hS (fun q _ h => (ro_free hS hA) q h) (ro_free hS hA) (fun r_2 u t H1 locs ht hvm hw hB hz1 hk1 hS => ?_)
  have hP := ro_keep hP hk1
  generalize H1 = H at hP hS ⊢
  rcases hw with ⟨rfl, hp_3⟩ | ⟨rfl, hp_3⟩
  · refine lv_if_eq (tgt := 14) hx hb dX3_set_4 (by decide) (fun c9 => absurd c9 (by decide)) (fun _ => ?_)
    refine lv_iload_n hx hb dX3_set_7 rfl (lv_at hl 2 rfl) ?_
    refine va_calli (va_runS (As := [.int p1]) (rest := []) ⟨hx, hb, hml, hown, hts⟩ (c_X3_isPlain l dC dI TT H.size p1) (va_cwS 1 hts gX3_set_X3_isPlain rfl rfl rfl (by decide +kernel) ⟨Nat.le_of_ble_eq_true rfl, Nat.le_of_ble_eq_true rfl⟩) (pr_S (ws := []) (wA := []) (tys := []) vp_nil (hK.sub [] rfl) vd_nil hst hS (ro_free hS hA)) rfl rfl hl.1 rfl (lv_room (Nat.le_of_ble_eq_true rfl)) dX3_set_8 ⟨Nat.le_of_ble_eq_true rfl, Nat.le_of_ble_eq_true rfl⟩) hS (fun q _ h => (ro_free hS hA) q h) (ro_free hS hA) (fun r_4 u t H1 locs ht hvm hw hB hz1 hk1 hS => ?_)
    have hP := ro_keep hP hk1
    generalize H1 = H at hP hS ⊢
    rcases hw with ⟨rfl, hp_5⟩ | ⟨rfl, hp_5⟩
    · refine lv_if_ne (tgt := 16) hx hb dX3_set_11 (by decide) (fun _ => ?_) (fun c9 => absurd c9 (by decide))
      refine lv_aload_n hx hb dX3_set_16 rfl (lv_at hl 0 rfl) ?_
      refine lv_iload_n hx hb dX3_set_17 rfl (lv_at hl 1 rfl) ?_
      refine lv_iload_n hx hb dX3_set_18 rfl (lv_at hl 2 rfl) ?_
      obtain ⟨k_6, hk_6⟩ := va_plg hg0.1 e_1
      refine va_calli (va_runV (b := g0) (As := [.int p0, .int p1]) (rest := []) ⟨hx, hb, hml, hown, hts⟩ (q_X3_isOther l dC dI TT H.size kI kJ kZ K L f hPI g0 hg0 p0 p1 (by constructor <;> omega)) (cwV 2 hts gX3_set_X3_isOther rfl rfl rfl (by decide +kernel) ⟨Nat.le_of_ble_eq_true rfl, Nat.le_of_ble_eq_true rfl⟩) ⟨pr_blind, va_recv hK hP (ci := 3) rfl hk_6, (pr_S (ws := va_pl L f) (wA := []) (tys := [(kI, .int), (kJ, .long), (kZ, .boolean)]) hP hK vd_nil hst hS (ro_free hS hA)).2⟩ rfl rfl hl.1 rfl (lv_room (Nat.le_of_ble_eq_true rfl)) dX3_set_19 ⟨Nat.le_of_ble_eq_true rfl, Nat.le_of_ble_eq_true rfl⟩) hS (fun q _ h => (ro_free hS hA) q h) (ro_free hS hA) (fun r_7 u t H1 locs ht hvm hw hB hz1 hk1 hS => ?_)
      have hP := ro_keep hP hk1
      generalize H1 = H at hP hS ⊢
      rcases hw with rfl | rfl
      · refine lv_if_ne (tgt := 35) hx hb dX3_set_22 (by decide) (fun _ => ?_) (fun c9 => absurd c9 (by decide))
        refine lv_aload_n hx hb dX3_set_35 rfl (lv_at hl 0 rfl) ?_
        obtain ⟨k_8, hk_8⟩ := va_plg hg0.1 e_1
        refine va_get (D := (dC, dI)) (ci := 3) (v := .ref s1_1) (C := RX3) (T := TX3) (N := 23) hx hb hts iX3_ hown hK hP k_8 hk_8 rfl 0 (by decide) (hts (.fieldLink RX3 7 "FieldLeavesModel" "slot" "[I") (by decide +kernel)) (fun _ h9 => h9) rfl dX3_set_36 ?_
        refine lv_iload_n hx hb dX3_set_39 rfl (lv_at hl 1 rfl) ?_
        obtain ⟨k_9, hk_9⟩ := va_plg fs1_1.1 eg11
        have h_9 : vp_in p0 12 := (vp_in_iff.mpr (by constructor <;> omega))
        refine va_iald hx hb hK hP k_9 0 hk_9 rfl h_9 dX3_set_40 ?_
        refine lv_topi (fun z_9 ez_9 => ?_)
        have fz_9 := fg11 _ (vp_lt h_9)
        rw [← ez_9] at fz_9
        refine lv_iconst (v := (-1)) hx hb dX3_set_41 (by decide) ?_
        refine lv_icmp_ne (tgt := 50) hx hb dX3_set_42 (by decide) (fun c_10 => ?_) (fun c_10 => ?_)
        · have c_10 := mt Int32.toInt_inj.mp c_10
          refine lv_bipush (v := (-14)) hx hb dX3_set_50 (by decide) ?_
          exact W.iret (v := (-14)) hx hb hr (fun t ht hW => ⟨⟨(-14), (), rfl, trivial, f, hPI, ⟨hfr, hGX⟩, by rw [ht]; exact hP, hD⟩, hS.F ht⟩) hS.2.2 dX3_set_52
        · have c_10 := congrArg Int32.toInt c_10
          refine lv_bipush (v := (-11)) hx hb dX3_set_45 (by decide) ?_
          refine lv_goto (tgt := 52) hx hb dX3_set_47 (by decide) ?_
          exact W.iret (v := (-11)) hx hb hr (fun t ht hW => ⟨⟨(-11), (), rfl, trivial, f, hPI, ⟨hfr, hGX⟩, by rw [ht]; exact hP, hD⟩, hS.F ht⟩) hS.2.2 dX3_set_52
      · refine lv_if_ne (tgt := 35) hx hb dX3_set_22 (by decide) (fun c9 => absurd c9 (by decide)) (fun _ => ?_)
        refine lv_aload_n hx hb dX3_set_25 rfl (lv_at hl 0 rfl) ?_
        obtain ⟨k_11, hk_11⟩ := va_plg hg0.1 e_1
        refine va_get (D := (dC, dI)) (ci := 3) (v := .ref s1_1) (C := RX3) (T := TX3) (N := 23) hx hb hts iX3_ hown hK hP k_11 hk_11 rfl 0 (by decide) (hts (.fieldLink RX3 7 "FieldLeavesModel" "slot" "[I") (by decide +kernel)) (fun _ h9 => h9) rfl dX3_set_26 ?_
        refine lv_iload_n hx hb dX3_set_29 rfl (lv_at hl 1 rfl) ?_
        obtain ⟨k_12, hk_12⟩ := va_plg fs1_1.1 eg11
        have h_12 : vp_in p0 12 := (vp_in_iff.mpr (by constructor <;> omega))
        refine va_iald hx hb hK hP k_12 0 hk_12 rfl h_12 dX3_set_30 ?_
        refine lv_topi (fun z_12 ez_12 => ?_)
        have fz_12 := fg11 _ (vp_lt h_12)
        rw [← ez_12] at fz_12
        refine lv_iconst (v := (-1)) hx hb dX3_set_31 (by decide) ?_
        refine lv_icmp_ne (tgt := 53) hx hb dX3_set_32 (by decide) (fun c_13 => ?_) (fun c_13 => ?_)
        · have c_13 := mt Int32.toInt_inj.mp c_13
          refine lv_iload_n hx hb dX3_set_53 rfl (lv_at hl 2 rfl) ?_
          refine lv_bipush (v := 13) hx hb dX3_set_54 (by decide) ?_
          refine lv_icmp_eq (tgt := 65) hx hb dX3_set_56 (by decide) (fun c_14 => ?_) (fun c_14 => ?_)
          · have c_14 := congrArg Int32.toInt c_14
            refine lv_bipush (v := (-17)) hx hb dX3_set_65 (by decide) ?_
            exact W.iret (v := (-17)) hx hb hr (fun t ht hW => ⟨⟨(-17), (), rfl, trivial, f, hPI, ⟨hfr, hGX⟩, by rw [ht]; exact hP, hD⟩, hS.F ht⟩) hS.2.2 dX3_set_67
          · have c_14 := mt Int32.toInt_inj.mp c_14
            refine lv_iload_n hx hb dX3_set_59 rfl (lv_at hl 2 rfl) ?_
            refine lv_bipush (v := 16) hx hb dX3_set_60 (by decide) ?_
            refine lv_icmp_ne (tgt := 68) hx hb dX3_set_62 (by decide) (fun c_15 => ?_) (fun c_15 => ?_)
            · have c_15 := mt Int32.toInt_inj.mp c_15
              refine lv_aload_n hx hb dX3_set_68 rfl (lv_at hl 0 rfl) ?_
              obtain ⟨k_16, hk_16⟩ := va_plg hg0.1 e_1
              refine va_get (D := (dC, dI)) (ci := 3) (v := .ref s3_1) (C := RX3) (T := TX3) (N := 23) hx hb hts iX3_ hown hK hP k_16 hk_16 rfl 2 (by decide) (hts (.fieldLink RX3 17 "FieldLeavesModel" "field" "[J") (by decide +kernel)) (fun _ h9 => h9) rfl dX3_set_69 ?_
              refine lv_bipush (v := 17) hx hb dX3_set_72 (by decide) ?_
              refine lv_aload_n hx hb dX3_set_74 rfl (lv_at hl 0 rfl) ?_
              obtain ⟨k_17, hk_17⟩ := va_plg hg0.1 e_1
              refine va_get (D := (dC, dI)) (ci := 3) (v := .ref s1_1) (C := RX3) (T := TX3) (N := 23) hx hb hts iX3_ hown hK hP k_17 hk_17 rfl 0 (by decide) (hts (.fieldLink RX3 7 "FieldLeavesModel" "slot" "[I") (by decide +kernel)) (fun _ h9 => h9) rfl dX3_set_75 ?_
              refine lv_iload_n hx hb dX3_set_78 rfl (lv_at hl 1 rfl) ?_
              obtain ⟨k_18, hk_18⟩ := va_plg fs1_1.1 eg11
              have h_18 : vp_in p0 12 := (vp_in_iff.mpr (by constructor <;> omega))
              refine va_iald hx hb hK hP k_18 0 hk_18 rfl h_18 dX3_set_79 ?_
              refine lv_topi (fun z_18 ez_18 => ?_)
              obtain rfl : z_12 = z_18 := ez_12.trans ez_18.symm
              refine lv_imul hx hb dX3_set_80 ?_
              refine lv_topi (fun z_19 ez_19 => ?_)
              have kz_19 := mul17 ez_19 (by omega) (by omega)
              refine lv_iload_n hx hb dX3_set_81 rfl (lv_at hl 2 rfl) ?_
              refine lv_iadd hx hb dX3_set_82 ?_
              refine lv_topi (fun z_20 ez_20 => ?_)
              have kz_20 := add_toInt ez_20 (by omega) (by omega)
              refine lv_iload_n hx hb dX3_set_83 rfl (lv_at hl 2 rfl) ?_
              refine lv_lload_n hx hb dX3_set_84 rfl (lv_at hl 3 rfl) ?_
              refine va_calll (va_runS (As := [.int p1, .long p2]) (rest := [.int z_20, .ref s3_1]) ⟨hx, hb, hml, hown, hts⟩ (q_X3_valueOf l dC dI TT H.size kI kJ kZ K L f hPI p1 p2) (va_cwS 2 hts gX3_set_X3_valueOf rfl rfl rfl (by decide +kernel) ⟨Nat.le_of_ble_eq_true rfl, Nat.le_of_ble_eq_true rfl⟩) (pr_S (ws := va_pl L f) (wA := []) (tys := [(kI, .int), (kJ, .long), (kZ, .boolean)]) hP hK vd_nil hst hS (ro_free hS hA)) rfl rfl hl.1 rfl (lv_room (Nat.le_of_ble_eq_true rfl)) dX3_set_85 ⟨Nat.le_of_ble_eq_true rfl, Nat.le_of_ble_eq_true rfl⟩) hS (fun q _ h => (ro_free hS hA) q h) (ro_free hS hA) (fun r_21 u t H1 locs ht hvm hw hB hz1 hk1 hS => ?_)
              have hP := ro_keep hP hk1
              generalize H1 = H at hP hS ⊢
              obtain ⟨k_22, hk_22⟩ := va_plg fs3_1.1 eg13
              have h_22 : vp_in z_20 108800 := (vp_in_iff.mpr (by constructor <;> omega))
              have fw_22 := rgF.plain fg13 (o := z_12) (f := p1) (w := z_20) (v := r_21) (by constructor <;> omega) (by omega) (by omega)
              have hD9 := hD
              refine va_last hx hb hK hP hD hS k_22 1 hk_22 rfl h_22 dX3_set_88 (fun H locs hP hD hS => ?_)
              have hP : va_P (dC, dI) vwCl (va_pl L (va_up f s3_1 (.inl (kJ, 108800, .inr (.inl (vp_updL fF (Int32.toNatClampNeg z_20) r_21)))))) H := by rw [← va_pls hD9 fs3_1.1 hk_22 _]; exact hP
              have hD : va_D A (va_pl L (va_up f s3_1 (.inl (kJ, 108800, .inr (.inl (vp_updL fF (Int32.toNatClampNeg z_20) r_21)))))) := by rw [← va_pls hD9 fs3_1.1 hk_22 _]; exact hD
              have hPI := hPI.put (e := .inl (kJ, 108800, .inr (.inl (vp_updL fF (Int32.toNatClampNeg z_20) r_21)))) fs3_1 ⟨_, rfl, fw_22⟩
              have es_f_23 : va_up f s3_1 (.inl (kJ, 108800, .inr (.inl (vp_updL fF (Int32.toNatClampNeg z_20) r_21)))) s3_1 = .inl (kJ, 108800, .inr (.inl (vp_updL fF (Int32.toNatClampNeg z_20) r_21))) := va_up_self _ _ _
              have eq_24 := (va_up_ne f (.inl (kJ, 108800, .inr (.inl (vp_updL fF (Int32.toNatClampNeg z_20) r_21)))) (isr_ne hg0 fs3_1 (by decide))).trans e_1
              have eq_25 := (va_up_ne f (.inl (kJ, 108800, .inr (.inl (vp_updL fF (Int32.toNatClampNeg z_20) r_21)))) (isr_ne fs1_1 fs3_1 (by decide))).trans eg11
              have eq_26 := (va_up_ne f (.inl (kJ, 108800, .inr (.inl (vp_updL fF (Int32.toNatClampNeg z_20) r_21)))) (isr_ne fs2_1 fs3_1 (by decide))).trans eg12
              have hfr := fr_up (S := (sK [13])) (e := .inl (kJ, 108800, .inr (.inl (vp_updL fF (Int32.toNatClampNeg z_20) r_21)))) hfr fs3_1 (by decide)
              generalize va_up f s3_1 (.inl (kJ, 108800, .inr (.inl (vp_updL fF (Int32.toNatClampNeg z_20) r_21)))) = f_23 at hP hD hPI es_f_23 eq_24 eq_25 eq_26 hfr
              refine lv_iconst (v := 1) hx hb dX3_set_89 (by decide) ?_
              exact W.iret (v := 1) hx hb hr (fun t ht hW => ⟨⟨1, (), rfl, trivial, f_23, hPI, ⟨hfr, ⟨_, _, _, SV.mk hU fs1_1 fs2_1 fs3_1 eq_25 eq_26 es_f_23, gi_plain hGI (plain_ne (o := z_12) (f := p1) (by omega) (by omega) (by omega))⟩⟩, by rw [ht]; exact hP, hD⟩, hS.F ht⟩) hS.2.2 dX3_set_90
            · have c_15 := congrArg Int32.toInt c_15
              refine lv_bipush (v := (-17)) hx hb dX3_set_65 (by decide) ?_
              exact W.iret (v := (-17)) hx hb hr (fun t ht hW => ⟨⟨(-17), (), rfl, trivial, f, hPI, ⟨hfr, hGX⟩, by rw [ht]; exact hP, hD⟩, hS.F ht⟩) hS.2.2 dX3_set_67
        · have c_13 := congrArg Int32.toInt c_13
          refine lv_aload_n hx hb dX3_set_35 rfl (lv_at hl 0 rfl) ?_
          obtain ⟨k_27, hk_27⟩ := va_plg hg0.1 e_1
          refine va_get (D := (dC, dI)) (ci := 3) (v := .ref s1_1) (C := RX3) (T := TX3) (N := 23) hx hb hts iX3_ hown hK hP k_27 hk_27 rfl 0 (by decide) (hts (.fieldLink RX3 7 "FieldLeavesModel" "slot" "[I") (by decide +kernel)) (fun _ h9 => h9) rfl dX3_set_36 ?_
          refine lv_iload_n hx hb dX3_set_39 rfl (lv_at hl 1 rfl) ?_
          obtain ⟨k_28, hk_28⟩ := va_plg fs1_1.1 eg11
          have h_28 : vp_in p0 12 := (vp_in_iff.mpr (by constructor <;> omega))
          refine va_iald hx hb hK hP k_28 0 hk_28 rfl h_28 dX3_set_40 ?_
          refine lv_topi (fun z_28 ez_28 => ?_)
          obtain rfl : z_12 = z_28 := ez_12.trans ez_28.symm
          refine lv_iconst (v := (-1)) hx hb dX3_set_41 (by decide) ?_
          refine lv_icmp_ne (tgt := 50) hx hb dX3_set_42 (by decide) (fun c_29 => ?_) (fun c_29 => ?_)
          · have c_29 := mt Int32.toInt_inj.mp c_29
            refine lv_bipush (v := (-14)) hx hb dX3_set_50 (by decide) ?_
            exact W.iret (v := (-14)) hx hb hr (fun t ht hW => ⟨⟨(-14), (), rfl, trivial, f, hPI, ⟨hfr, hGX⟩, by rw [ht]; exact hP, hD⟩, hS.F ht⟩) hS.2.2 dX3_set_52
          · have c_29 := congrArg Int32.toInt c_29
            refine lv_bipush (v := (-11)) hx hb dX3_set_45 (by decide) ?_
            refine lv_goto (tgt := 52) hx hb dX3_set_47 (by decide) ?_
            exact W.iret (v := (-11)) hx hb hr (fun t ht hW => ⟨⟨(-11), (), rfl, trivial, f, hPI, ⟨hfr, hGX⟩, by rw [ht]; exact hP, hD⟩, hS.F ht⟩) hS.2.2 dX3_set_52
    · refine lv_if_ne (tgt := 16) hx hb dX3_set_11 (by decide) (fun c9 => absurd c9 (by decide)) (fun _ => ?_)
      refine lv_iconst (v := (-1)) hx hb dX3_set_14 (by decide) ?_
      exact W.iret (v := (-1)) hx hb hr (fun t ht hW => ⟨⟨(-1), (), rfl, trivial, f, hPI, ⟨hfr, hGX⟩, by rw [ht]; exact hP, hD⟩, hS.F ht⟩) hS.2.2 dX3_set_15
  · refine lv_if_eq (tgt := 14) hx hb dX3_set_4 (by decide) (fun _ => ?_) (fun c9 => absurd c9 (by decide))
    refine lv_iconst (v := (-1)) hx hb dX3_set_14 (by decide) ?_
    exact W.iret (v := (-1)) hx hb hr (fun t ht hW => ⟨⟨(-1), (), rfl, trivial, f, hPI, ⟨hfr, hGX⟩, by rw [ht]; exact hP, hD⟩, hS.F ht⟩) hS.2.2 dX3_set_15
