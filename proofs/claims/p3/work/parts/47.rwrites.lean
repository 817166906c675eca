set_option maxRecDepth 20000 in
theorem in_q_X3_clear_X3 : ∀ w ∈ u_ws RX3 TX3 23, w ∈ wsX3_clear := by decide +kernel
set_option maxRecDepth 100000 in
set_option maxHeartbeats 4000000 in
theorem q_X3_clear (l : Launch) (dC : Nat → ClassId) (dI : Nat → Nat → Nat) (TT : Nat × Nat × Nat) (sz : Nat) (kI kJ kZ : ClassId) (K : Nat → Nat) (L : List Nat) (f : Nat → va_E) (hPI : PR kI kJ kZ K L f) (g0 : Nat) (hg0 : isr K L 10 g0) (p0 : Int32) : Met l yX3_clear wsX3_clear ({ frames := 2, cells := 0, slots := 0, locals := 45 } : Room) (va_Pc [.ref g0, .int p0] (pr dC dI (va_pl L f) (va_pl L f) [(kI, .int), (kJ, .long), (kZ, .boolean)] sz TT)) (va_Qi (fun (r : Int32) (u : Unit) => True) (fun (_ : Unit) t => ∃ f2 : Nat → va_E, PR kI kJ kZ K L f2 ∧ (FR (sK [11]) K L f f2) ∧ va_P (dC, dI) vwCl (va_pl L f2) t.heap ∧ va_D (va_A (va_pl L f) sz) (va_pl L f2)) (va_A (va_pl L f) sz)) 0 0 (va_A (va_pl L f) sz) := by
  refine Met.ofW (cc := cX3_clear) (maxL := 3) (ret := (some .int)) (by decide) rfl ?_
  intro p e s m args below meth c s₁ B hml hv
  obtain ⟨rfl, hsz, hP, hK, hD0, hst⟩ := hv
  have hx := B.exec
  have hb := B.bytes
  have hr := B.returns
  have hts := atoms_spec (ws := wsX3_clear) B.pre
  have hown : s.vm.findClass RX3 = some m.cls := findClass_of_methodNamed B.named
  have hlocks := B.notSynchronized
  have iX3_ := in_q_X3_clear_X3
  subst hsz
  have hD := hD0.self (sz := s.heap.size)
  generalize hAe : va_A (va_pl L f) s.heap.size = A at hD hst ⊢
  have hA : ∀ q : Nat, s.heap.size ≤ q → A q := fun q h => by rw [← hAe]; exact Or.inr h
  have hS : va_S A s.heap s.heap [] := va_S.rf
  have hl := lv_entry ([.ref g0, .int p0]) (n := 3) (Nat.le_of_ble_eq_true rfl)
  rw [lg_entry_eq]
  generalize (lg_sl ([.ref g0, .int p0]) ++ List.replicate (3 - (lg_sl ([.ref g0, .int p0])).length) Slot.unset).toArray = ls at hl ⊢
  have hl : lv_has ls 3 [(0, .ref g0), (1, .int p0)] := hl
  have km1_ : Int32.toInt (-1) = -1 := by decide
  have k0_ : Int32.toInt 0 = 0 := by decide
  have k1_ : Int32.toInt 1 = 1 := by decide
  have hfr : FR (sK [11]) K L f f := FR.rf
  refine lv_iload_n hx hb dX3_clear_0 rfl (lv_at hl 1 rfl) ?_
  refine va_calli (va_runS (As := [.int p0]) (rest := []) ⟨hx, hb, hml, hown, hts⟩ (c_X3_isSlot l dC dI TT s.heap.size p0) (va_cwS 1 hts gX3_clear_X3_isSlot rfl rfl rfl (by decide +kernel) ⟨Nat.le_of_ble_eq_true rfl, Nat.le_of_ble_eq_true rfl⟩) (pr_S (ws := []) (wA := []) (tys := []) vp_nil (hK.sub [] rfl) vd_nil hst hS (ro_free hS hA)) rfl rfl hl.1 rfl (lv_room (Nat.le_of_ble_eq_true rfl)) dX3_clear_1 ⟨Nat.le_of_ble_eq_true rfl, Nat.le_of_ble_eq_true rfl⟩) hS (fun q _ h => (ro_free hS hA) q h) (ro_free hS hA) (fun r_1 u t H1 locs ht hvm hw hB hz1 hk1 hS => ?_)
  have hP := ro_keep hP hk1
  generalize H1 = H at hP hS ⊢
  rcases hw with ⟨rfl, hp_2⟩ | ⟨rfl, hp_2⟩
  · refine lv_if_ne (tgt := 9) hx hb dX3_clear_4 (by decide) (fun _ => ?_) (fun c9 => absurd c9 (by decide))
    refine lv_aload_n hx hb dX3_clear_9 rfl (lv_at hl 0 rfl) ?_
    obtain ⟨s1_3, s2_3, s3_3, s4_3, s5_3, s6_3, s7_3, pa_3, lm_3, s8_3, s9_3, s10_3, fm_3, s11_3, nm_3, s12_3, s13_3, s14_3, rm_3, s15_3, s16_3, s17_3, s18_3, e_3, fs1_3, fs2_3, fs3_3, fs4_3, fs5_3, fs6_3, fs7_3, flm_3, fs8_3, fs9_3, fs10_3, ffm_3, fs11_3, fnm_3, fs12_3, fs13_3, fs14_3, frm_3, fs15_3, fs16_3, fs17_3, fs18_3⟩ := hPI.a10 hg0
    obtain ⟨k_3, hk_3⟩ := va_plg hg0.1 e_3
    refine va_get (D := (dC, dI)) (ci := 3) (v := .ref s1_3) (C := RX3) (T := TX3) (N := 23) hx hb hts iX3_ hown hK hP k_3 hk_3 rfl 0 (by decide) (hts (.fieldLink RX3 7 "FieldLeavesModel" "slot" "[I") (by decide +kernel)) (fun _ h9 => h9) rfl dX3_clear_10 ?_
    refine lv_iload_n hx hb dX3_clear_13 rfl (lv_at hl 1 rfl) ?_
    obtain ⟨g_4, e_4, fg_4⟩ := hPI.a11 fs1_3
    obtain ⟨k_4, hk_4⟩ := va_plg fs1_3.1 e_4
    have h_4 : vp_in p0 12 := (vp_in_iff.mpr (by constructor <;> omega))
    refine va_iald hx hb hK hP k_4 0 hk_4 rfl h_4 dX3_clear_14 ?_
    refine lv_topi (fun z_4 ez_4 => ?_)
    have fz_4 := fg_4 _ (vp_lt h_4)
    rw [← ez_4] at fz_4
    refine lv_iconst (v := (-1)) hx hb dX3_clear_15 (by decide) ?_
    refine lv_icmp_ne (tgt := 23) hx hb dX3_clear_16 (by decide) (fun c_5 => ?_) (fun c_5 => ?_)
    · have c_5 := mt Int32.toInt_inj.mp c_5
      refine lv_iconst (v := 1) hx hb dX3_clear_23 (by decide) ?_
      refine lv_istore_n (lv' := [(2, .int 1), (0, .ref g0), (1, .int p0)]) hx hb dX3_clear_24 rfl hl (by decide) rfl (fun ls hl => ?_)
      refine lv_aload_n hx hb dX3_clear_25 rfl (lv_at hl 1 rfl) ?_
      obtain ⟨k_6, hk_6⟩ := va_plg hg0.1 e_3
      refine va_get (D := (dC, dI)) (ci := 3) (v := .ref s1_3) (C := RX3) (T := TX3) (N := 23) hx hb hts iX3_ hown hK hP k_6 hk_6 rfl 0 (by decide) (hts (.fieldLink RX3 7 "FieldLeavesModel" "slot" "[I") (by decide +kernel)) (fun _ h9 => h9) rfl dX3_clear_26 ?_
      refine lv_iload_n hx hb dX3_clear_29 rfl (lv_at hl 2 rfl) ?_
      refine lv_iconst (v := (-1)) hx hb dX3_clear_30 (by decide) ?_
      obtain ⟨k_7, hk_7⟩ := va_plg fs1_3.1 e_4
      have h_7 : vp_in p0 12 := (vp_in_iff.mpr (by constructor <;> omega))
      have fw_7 := updS (P := fun v => -1 ≤ v.toInt ∧ v.toInt < 6400) (k := Int32.toNatClampNeg p0) (v := (-1)) fg_4 (by omega)
      have hD9 := hD
      refine va_iast hx hb hK hP hD hS k_7 0 hk_7 rfl h_7 dX3_clear_31 (fun H locs hP hD hS => ?_)
      have hP : va_P (dC, dI) vwCl (va_pl L (va_up f s1_3 (.inl (kI, 12, .inl (upd g_4 (Int32.toNatClampNeg p0) (-1)))))) H := by rw [← va_pls hD9 fs1_3.1 hk_7 _]; exact hP
      have hD : va_D A (va_pl L (va_up f s1_3 (.inl (kI, 12, .inl (upd g_4 (Int32.toNatClampNeg p0) (-1)))))) := by rw [← va_pls hD9 fs1_3.1 hk_7 _]; exact hD
      have hPI := hPI.put (e := .inl (kI, 12, .inl (upd g_4 (Int32.toNatClampNeg p0) (-1)))) fs1_3 ⟨_, rfl, fw_7⟩
      have es_f_8 : va_up f s1_3 (.inl (kI, 12, .inl (upd g_4 (Int32.toNatClampNeg p0) (-1)))) s1_3 = .inl (kI, 12, .inl (upd g_4 (Int32.toNatClampNeg p0) (-1))) := va_up_self _ _ _
      have eq_9 := (va_up_ne f (.inl (kI, 12, .inl (upd g_4 (Int32.toNatClampNeg p0) (-1)))) (isr_ne hg0 fs1_3 (by decide))).trans e_3
      have hfr := fr_up (S := (sK [11])) (e := .inl (kI, 12, .inl (upd g_4 (Int32.toNatClampNeg p0) (-1)))) hfr fs1_3 (by decide)
      generalize va_up f s1_3 (.inl (kI, 12, .inl (upd g_4 (Int32.toNatClampNeg p0) (-1)))) = f_8 at hP hD hPI es_f_8 eq_9 hfr
      refine lv_iload_n hx hb dX3_clear_32 rfl (lv_at hl 0 rfl) ?_
      exact W.iret (v := 1) hx hb hr (fun t ht hW => ⟨⟨1, (), rfl, trivial, f_8, hPI, hfr, by rw [ht]; exact hP, hD⟩, hS.F ht⟩) hS.2.2 dX3_clear_33
    · have c_5 := congrArg Int32.toInt c_5
      refine lv_iconst (v := 0) hx hb dX3_clear_19 (by decide) ?_
      refine lv_goto (tgt := 24) hx hb dX3_clear_20 (by decide) ?_
      refine lv_istore_n (lv' := [(2, .int 0), (0, .ref g0), (1, .int p0)]) hx hb dX3_clear_24 rfl hl (by decide) rfl (fun ls hl => ?_)
      refine lv_aload_n hx hb dX3_clear_25 rfl (lv_at hl 1 rfl) ?_
      obtain ⟨k_10, hk_10⟩ := va_plg hg0.1 e_3
      refine va_get (D := (dC, dI)) (ci := 3) (v := .ref s1_3) (C := RX3) (T := TX3) (N := 23) hx hb hts iX3_ hown hK hP k_10 hk_10 rfl 0 (by decide) (hts (.fieldLink RX3 7 "FieldLeavesModel" "slot" "[I") (by decide +kernel)) (fun _ h9 => h9) rfl dX3_clear_26 ?_
      refine lv_iload_n hx hb dX3_clear_29 rfl (lv_at hl 2 rfl) ?_
      refine lv_iconst (v := (-1)) hx hb dX3_clear_30 (by decide) ?_
      obtain ⟨k_11, hk_11⟩ := va_plg fs1_3.1 e_4
      have h_11 : vp_in p0 12 := (vp_in_iff.mpr (by constructor <;> omega))
      have fw_11 := updS (P := fun v => -1 ≤ v.toInt ∧ v.toInt < 6400) (k := Int32.toNatClampNeg p0) (v := (-1)) fg_4 (by omega)
      have hD9 := hD
      refine va_iast hx hb hK hP hD hS k_11 0 hk_11 rfl h_11 dX3_clear_31 (fun H locs hP hD hS => ?_)
      have hP : va_P (dC, dI) vwCl (va_pl L (va_up f s1_3 (.inl (kI, 12, .inl (upd g_4 (Int32.toNatClampNeg p0) (-1)))))) H := by rw [← va_pls hD9 fs1_3.1 hk_11 _]; exact hP
      have hD : va_D A (va_pl L (va_up f s1_3 (.inl (kI, 12, .inl (upd g_4 (Int32.toNatClampNeg p0) (-1)))))) := by rw [← va_pls hD9 fs1_3.1 hk_11 _]; exact hD
      have hPI := hPI.put (e := .inl (kI, 12, .inl (upd g_4 (Int32.toNatClampNeg p0) (-1)))) fs1_3 ⟨_, rfl, fw_11⟩
      have es_f_12 : va_up f s1_3 (.inl (kI, 12, .inl (upd g_4 (Int32.toNatClampNeg p0) (-1)))) s1_3 = .inl (kI, 12, .inl (upd g_4 (Int32.toNatClampNeg p0) (-1))) := va_up_self _ _ _
      have eq_13 := (va_up_ne f (.inl (kI, 12, .inl (upd g_4 (Int32.toNatClampNeg p0) (-1)))) (isr_ne hg0 fs1_3 (by decide))).trans e_3
      have hfr := fr_up (S := (sK [11])) (e := .inl (kI, 12, .inl (upd g_4 (Int32.toNatClampNeg p0) (-1)))) hfr fs1_3 (by decide)
      generalize va_up f s1_3 (.inl (kI, 12, .inl (upd g_4 (Int32.toNatClampNeg p0) (-1)))) = f_12 at hP hD hPI es_f_12 eq_13 hfr
      refine lv_iload_n hx hb dX3_clear_32 rfl (lv_at hl 0 rfl) ?_
      exact W.iret (v := 0) hx hb hr (fun t ht hW => ⟨⟨0, (), rfl, trivial, f_12, hPI, hfr, by rw [ht]; exact hP, hD⟩, hS.F ht⟩) hS.2.2 dX3_clear_33
  · refine lv_if_ne (tgt := 9) hx hb dX3_clear_4 (by decide) (fun c9 => absurd c9 (by decide)) (fun _ => ?_)
    refine lv_iconst (v := (-1)) hx hb dX3_clear_7 (by decide) ?_
    exact W.iret (v := (-1)) hx hb hr (fun t ht hW => ⟨⟨(-1), (), rfl, trivial, f, hPI, hfr, by rw [ht]; exact hP, hD⟩, hS.F ht⟩) hS.2.2 dX3_clear_8
set_option maxRecDepth 20000 in
theorem in_q_X3_share_X3 : ∀ w ∈ u_ws RX3 TX3 23, w ∈ wsX3_share := by decide +kernel
set_option maxRecDepth 100000 in
set_option maxHeartbeats 4000000 in
theorem q_X3_share (l : Launch) (dC : Nat → ClassId) (dI : Nat → Nat → Nat) (TT : Nat × Nat × Nat) (sz : Nat) (kI kJ kZ : ClassId) (K : Nat → Nat) (L : List Nat) (f : Nat → va_E) (hPI : PR kI kJ kZ K L f) (g0 : Nat) (hg0 : isr K L 10 g0) (p0 : Int32) (p1 : Int32) : Met l yX3_share wsX3_share ({ frames := 2, cells := 0, slots := 0, locals := 45 } : Room) (va_Pc [.ref g0, .int p0, .int p1] (pr dC dI (va_pl L f) (va_pl L f) [(kI, .int), (kJ, .long), (kZ, .boolean)] sz TT)) (va_Qi (fun (r : Int32) (u : Unit) => r = sp_share p0 p1) (fun (_ : Unit) t => ∃ f2 : Nat → va_E, PR kI kJ kZ K L f2 ∧ (FR (sK [11]) K L f f2) ∧ va_P (dC, dI) vwCl (va_pl L f2) t.heap ∧ va_D (va_A (va_pl L f) sz) (va_pl L f2)) (va_A (va_pl L f) sz)) 0 0 (va_A (va_pl L f) sz) := by
  refine Met.ofW (cc := cX3_share) (maxL := 3) (ret := (some .int)) (by decide) rfl ?_
  intro p e s m args below meth c s₁ B hml hv
  obtain ⟨rfl, hsz, hP, hK, hD0, hst⟩ := hv
  have hx := B.exec
  have hb := B.bytes
  have hr := B.returns
  have hts := atoms_spec (ws := wsX3_share) B.pre
  have hown : s.vm.findClass RX3 = some m.cls := findClass_of_methodNamed B.named
  have hlocks := B.notSynchronized
  have iX3_ := in_q_X3_share_X3
  subst hsz
  have hD := hD0.self (sz := s.heap.size)
  generalize hAe : va_A (va_pl L f) s.heap.size = A at hD hst ⊢
  have hA : ∀ q : Nat, s.heap.size ≤ q → A q := fun q h => by rw [← hAe]; exact Or.inr h
  have hS : va_S A s.heap s.heap [] := va_S.rf
  have hl := lv_entry ([.ref g0, .int p0, .int p1]) (n := 3) (Nat.le_of_ble_eq_true rfl)
  rw [lg_entry_eq]
  generalize (lg_sl ([.ref g0, .int p0, .int p1]) ++ List.replicate (3 - (lg_sl ([.ref g0, .int p0, .int p1])).length) Slot.unset).toArray = ls at hl ⊢
  have hl : lv_has ls 3 [(0, .ref g0), (1, .int p0), (2, .int p1)] := hl
  have km1_ : Int32.toInt (-1) = -1 := by decide
  have k1_ : Int32.toInt 1 = 1 := by decide
  have hfr : FR (sK [11]) K L f f := FR.rf
  refine lv_iload_n hx hb dX3_share_0 rfl (lv_at hl 1 rfl) ?_
  refine va_calli (va_runS (As := [.int p0]) (rest := []) ⟨hx, hb, hml, hown, hts⟩ (c_X3_isSlot l dC dI TT s.heap.size p0) (va_cwS 1 hts gX3_share_X3_isSlot rfl rfl rfl (by decide +kernel) ⟨Nat.le_of_ble_eq_true rfl, Nat.le_of_ble_eq_true rfl⟩) (pr_S (ws := []) (wA := []) (tys := []) vp_nil (hK.sub [] rfl) vd_nil hst hS (ro_free hS hA)) rfl rfl hl.1 rfl (lv_room (Nat.le_of_ble_eq_true rfl)) dX3_share_1 ⟨Nat.le_of_ble_eq_true rfl, Nat.le_of_ble_eq_true rfl⟩) hS (fun q _ h => (ro_free hS hA) q h) (ro_free hS hA) (fun r_1 u t H1 locs ht hvm hw hB hz1 hk1 hS => ?_)
  have hP := ro_keep hP hk1
  generalize H1 = H at hP hS ⊢
  rcases hw with ⟨rfl, hp_2⟩ | ⟨rfl, hp_2⟩
  · refine lv_if_eq (tgt := 14) hx hb dX3_share_4 (by decide) (fun c9 => absurd c9 (by decide)) (fun _ => ?_)
    refine lv_iload_n hx hb dX3_share_7 rfl (lv_at hl 2 rfl) ?_
    refine va_calli (va_runS (As := [.int p1]) (rest := []) ⟨hx, hb, hml, hown, hts⟩ (c_X3_isSlot l dC dI TT H.size p1) (va_cwS 1 hts gX3_share_X3_isSlot rfl rfl rfl (by decide +kernel) ⟨Nat.le_of_ble_eq_true rfl, Nat.le_of_ble_eq_true rfl⟩) (pr_S (ws := []) (wA := []) (tys := []) vp_nil (hK.sub [] rfl) vd_nil hst hS (ro_free hS hA)) rfl rfl hl.1 rfl (lv_room (Nat.le_of_ble_eq_true rfl)) dX3_share_8 ⟨Nat.le_of_ble_eq_true rfl, Nat.le_of_ble_eq_true rfl⟩) hS (fun q _ h => (ro_free hS hA) q h) (ro_free hS hA) (fun r_3 u t H1 locs ht hvm hw hB hz1 hk1 hS => ?_)
    have hP := ro_keep hP hk1
    generalize H1 = H at hP hS ⊢
    rcases hw with ⟨rfl, hp_4⟩ | ⟨rfl, hp_4⟩
    · refine lv_if_ne (tgt := 16) hx hb dX3_share_11 (by decide) (fun _ => ?_) (fun c9 => absurd c9 (by decide))
      refine lv_aload_n hx hb dX3_share_16 rfl (lv_at hl 0 rfl) ?_
      obtain ⟨s1_5, s2_5, s3_5, s4_5, s5_5, s6_5, s7_5, pa_5, lm_5, s8_5, s9_5, s10_5, fm_5, s11_5, nm_5, s12_5, s13_5, s14_5, rm_5, s15_5, s16_5, s17_5, s18_5, e_5, fs1_5, fs2_5, fs3_5, fs4_5, fs5_5, fs6_5, fs7_5, flm_5, fs8_5, fs9_5, fs10_5, ffm_5, fs11_5, fnm_5, fs12_5, fs13_5, fs14_5, frm_5, fs15_5, fs16_5, fs17_5, fs18_5⟩ := hPI.a10 hg0
      obtain ⟨k_5, hk_5⟩ := va_plg hg0.1 e_5
      refine va_get (D := (dC, dI)) (ci := 3) (v := .ref s1_5) (C := RX3) (T := TX3) (N := 23) hx hb hts iX3_ hown hK hP k_5 hk_5 rfl 0 (by decide) (hts (.fieldLink RX3 7 "FieldLeavesModel" "slot" "[I") (by decide +kernel)) (fun _ h9 => h9) rfl dX3_share_17 ?_
      refine lv_iload_n hx hb dX3_share_20 rfl (lv_at hl 2 rfl) ?_
      refine lv_aload_n hx hb dX3_share_21 rfl (lv_at hl 0 rfl) ?_
      obtain ⟨k_6, hk_6⟩ := va_plg hg0.1 e_5
      refine va_get (D := (dC, dI)) (ci := 3) (v := .ref s1_5) (C := RX3) (T := TX3) (N := 23) hx hb hts iX3_ hown hK hP k_6 hk_6 rfl 0 (by decide) (hts (.fieldLink RX3 7 "FieldLeavesModel" "slot" "[I") (by decide +kernel)) (fun _ h9 => h9) rfl dX3_share_22 ?_
      refine lv_iload_n hx hb dX3_share_25 rfl (lv_at hl 1 rfl) ?_
      obtain ⟨g_7, e_7, fg_7⟩ := hPI.a11 fs1_5
      obtain ⟨k_7, hk_7⟩ := va_plg fs1_5.1 e_7
      have h_7 : vp_in p0 12 := (vp_in_iff.mpr (by constructor <;> omega))
      refine va_iald hx hb hK hP k_7 0 hk_7 rfl h_7 dX3_share_26 ?_
      refine lv_topi (fun z_7 ez_7 => ?_)
      have fz_7 := fg_7 _ (vp_lt h_7)
      rw [← ez_7] at fz_7
      obtain ⟨k_8, hk_8⟩ := va_plg fs1_5.1 e_7
      have h_8 : vp_in p1 12 := (vp_in_iff.mpr (by constructor <;> omega))
      have fw_8 := updS (P := fun v => -1 ≤ v.toInt ∧ v.toInt < 6400) (k := Int32.toNatClampNeg p1) (v := z_7) fg_7 (by omega)
      have hD9 := hD
      refine va_iast hx hb hK hP hD hS k_8 0 hk_8 rfl h_8 dX3_share_27 (fun H locs hP hD hS => ?_)
      have hP : va_P (dC, dI) vwCl (va_pl L (va_up f s1_5 (.inl (kI, 12, .inl (upd g_7 (Int32.toNatClampNeg p1) z_7))))) H := by rw [← va_pls hD9 fs1_5.1 hk_8 _]; exact hP
      have hD : va_D A (va_pl L (va_up f s1_5 (.inl (kI, 12, .inl (upd g_7 (Int32.toNatClampNeg p1) z_7))))) := by rw [← va_pls hD9 fs1_5.1 hk_8 _]; exact hD
      have hPI := hPI.put (e := .inl (kI, 12, .inl (upd g_7 (Int32.toNatClampNeg p1) z_7))) fs1_5 ⟨_, rfl, fw_8⟩
      have es_f_9 : va_up f s1_5 (.inl (kI, 12, .inl (upd g_7 (Int32.toNatClampNeg p1) z_7))) s1_5 = .inl (kI, 12, .inl (upd g_7 (Int32.toNatClampNeg p1) z_7)) := va_up_self _ _ _
      have eq_10 := (va_up_ne f (.inl (kI, 12, .inl (upd g_7 (Int32.toNatClampNeg p1) z_7))) (isr_ne hg0 fs1_5 (by decide))).trans e_5
      have hfr := fr_up (S := (sK [11])) (e := .inl (kI, 12, .inl (upd g_7 (Int32.toNatClampNeg p1) z_7))) hfr fs1_5 (by decide)
      generalize va_up f s1_5 (.inl (kI, 12, .inl (upd g_7 (Int32.toNatClampNeg p1) z_7))) = f_9 at hP hD hPI es_f_9 eq_10 hfr
      refine lv_iconst (v := 1) hx hb dX3_share_28 (by decide) ?_
      exact W.iret (v := 1) hx hb hr (fun t ht hW => ⟨⟨1, (), rfl, (show 1 = sp_share p0 p1 from by unfold sp_share; (repeat' split) <;> first | rfl | (exfalso; omega)), f_9, hPI, hfr, by rw [ht]; exact hP, hD⟩, hS.F ht⟩) hS.2.2 dX3_share_29
    · refine lv_if_ne (tgt := 16) hx hb dX3_share_11 (by decide) (fun c9 => absurd c9 (by decide)) (fun _ => ?_)
      refine lv_iconst (v := (-1)) hx hb dX3_share_14 (by decide) ?_
      exact W.iret (v := (-1)) hx hb hr (fun t ht hW => ⟨⟨(-1), (), rfl, (show (-1) = sp_share p0 p1 from by unfold sp_share; (repeat' split) <;> first | rfl | (exfalso; omega)), f, hPI, hfr, by rw [ht]; exact hP, hD⟩, hS.F ht⟩) hS.2.2 dX3_share_15
  · refine lv_if_eq (tgt := 14) hx hb dX3_share_4 (by decide) (fun _ => ?_) (fun c9 => absurd c9 (by decide))
    refine lv_iconst (v := (-1)) hx hb dX3_share_14 (by decide) ?_
    exact W.iret (v := (-1)) hx hb hr (fun t ht hW => ⟨⟨(-1), (), rfl, (show (-1) = sp_share p0 p1 from by unfold sp_share; (repeat' split) <;> first | rfl | (exfalso; omega)), f, hPI, hfr, by rw [ht]; exact hP, hD⟩, hS.F ht⟩) hS.2.2 dX3_share_15
set_option maxRecDepth 20000 in
theorem in_q_X3_set_X3 : ∀ w ∈ u_ws RX3 TX3 23, w ∈ wsX3_set := by decide +kernel
set_option maxRecDepth 100000 in
set_option maxHeartbeats 4000000 in
theorem q_X3_set (l : Launch) (dC : Nat → ClassId) (dI : Nat → Nat → Nat) (TT : Nat × Nat × Nat) (sz : Nat) (kI kJ kZ : ClassId) (K : Nat → Nat) (L : List Nat) (f : Nat → va_E) (hPI : PR kI kJ kZ K L f) (g0 : Nat) (hg0 : isr K L 10 g0) (p0 : Int32) (p1 : Int32) (p2 : Int64) : Met l yX3_set wsX3_set ({ frames := 2, cells := 0, slots := 0, locals := 45 } : Room) (va_Pc [.ref g0, .int p0, .int p1, .long p2] (pr dC dI (va_pl L f) (va_pl L f) [(kI, .int), (kJ, .long), (kZ, .boolean)] sz TT)) (va_Qi (fun (r : Int32) (u : Unit) => True) (fun (_ : Unit) t => ∃ f2 : Nat → va_E, PR kI kJ kZ K L f2 ∧ (FR (sK [13]) K L f f2) ∧ va_P (dC, dI) vwCl (va_pl L f2) t.heap ∧ va_D (va_A (va_pl L f) sz) (va_pl L f2)) (va_A (va_pl L f) sz)) 0 0 (va_A (va_pl L f) sz) := by
  refine Met.ofW (cc := cX3_set) (maxL := 5) (ret := (some .int)) (by decide) rfl ?_
  intro p e s m args below meth c s₁ B hml hv
  obtain ⟨rfl, hsz, hP, hK, hD0, hst⟩ := hv
  have hx := B.exec
  have hb := B.bytes
  have hr := B.returns
  have hts := atoms_spec (ws := wsX3_set) B.pre
  have hown : s.vm.findClass RX3 = some m.cls := findClass_of_methodNamed B.named
  have hlocks := B.notSynchronized
  have iX3_ := in_q_X3_set_X3
  subst hsz
  have hD := hD0.self (sz := s.heap.size)
  generalize hAe : va_A (va_pl L f) s.heap.size = A at hD hst ⊢
  have hA : ∀ q : Nat, s.heap.size ≤ q → A q := fun q h => by rw [← hAe]; exact Or.inr h
  have hS : va_S A s.heap s.heap [] := va_S.rf
  have hl := lv_entry ([.ref g0, .int p0, .int p1, .long p2]) (n := 5) (Nat.le_of_ble_eq_true rfl)
  rw [lg_entry_eq]
  generalize (lg_sl ([.ref g0, .int p0, .int p1, .long p2]) ++ List.replicate (5 - (lg_sl ([.ref g0, .int p0, .int p1, .long p2])).length) Slot.unset).toArray = ls at hl ⊢
  have hl : lv_has ls 5 [(0, .ref g0), (1, .int p0), (2, .int p1), (3, .long p2)] := hl
  have km17_ : Int32.toInt (-17) = -17 := by decide
  have km14_ : Int32.toInt (-14) = -14 := by decide
  have km11_ : Int32.toInt (-11) = -11 := by decide
  have km1_ : Int32.toInt (-1) = -1 := by decide
  have k1_ : Int32.toInt 1 = 1 := by decide
  have k13_ : Int32.toInt 13 = 13 := by decide
  have k16_ : Int32.toInt 16 = 16 := by decide
  have hfr : FR (sK [13]) K L f f := FR.rf
  refine lv_iload_n hx hb dX3_set_0 rfl (lv_at hl 1 rfl) ?_
  refine va_calli (va_runS (As := [.int p0]) (rest := []) ⟨hx, hb, hml, hown, hts⟩ (c_X3_isSlot l dC dI TT s.heap.size p0) (va_cwS 1 hts gX3_set_X3_isSlot rfl rfl rfl (by decide +kernel) ⟨Nat.le_of_ble_eq_true rfl, Nat.le_of_ble_eq_true rfl⟩) (pr_S (ws := []) (wA := []) (tys := []) vp_nil (hK.sub [] rfl) vd_nil hst hS (ro_free hS hA)) rfl rfl hl.1 rfl (lv_room (Nat.le_of_ble_eq_true rfl)) dX3_set_1 ⟨Nat.le_of_ble_eq_true rfl, Nat.le_of_ble_eq_true rfl⟩) hS (fun q _ h => (ro_free hS hA) q h) (ro_free hS hA) (fun r_1 u t H1 locs ht hvm hw hB hz1 hk1 hS => ?_)
  have hP := ro_keep hP hk1
  generalize H1 = H at hP hS ⊢
  rcases hw with ⟨rfl, hp_2⟩ | ⟨rfl, hp_2⟩
  · refine lv_if_eq (tgt := 14) hx hb dX3_set_4 (by decide) (fun c9 => absurd c9 (by decide)) (fun _ => ?_)
    refine lv_iload_n hx hb dX3_set_7 rfl (lv_at hl 2 rfl) ?_
    refine va_calli (va_runS (As := [.int p1]) (rest := []) ⟨hx, hb, hml, hown, hts⟩ (c_X3_isPlain l dC dI TT H.size p1) (va_cwS 1 hts gX3_set_X3_isPlain rfl rfl rfl (by decide +kernel) ⟨Nat.le_of_ble_eq_true rfl, Nat.le_of_ble_eq_true rfl⟩) (pr_S (ws := []) (wA := []) (tys := []) vp_nil (hK.sub [] rfl) vd_nil hst hS (ro_free hS hA)) rfl rfl hl.1 rfl (lv_room (Nat.le_of_ble_eq_true rfl)) dX3_set_8 ⟨Nat.le_of_ble_eq_true rfl, Nat.le_of_ble_eq_true rfl⟩) hS (fun q _ h => (ro_free hS hA) q h) (ro_free hS hA) (fun r_3 u t H1 locs ht hvm hw hB hz1 hk1 hS => ?_)
    have hP := ro_keep hP hk1
    generalize H1 = H at hP hS ⊢
    rcases hw with ⟨rfl, hp_4⟩ | ⟨rfl, hp_4⟩
    · refine lv_if_ne (tgt := 16) hx hb dX3_set_11 (by decide) (fun _ => ?_) (fun c9 => absurd c9 (by decide))
      refine lv_aload_n hx hb dX3_set_16 rfl (lv_at hl 0 rfl) ?_
      refine lv_iload_n hx hb dX3_set_17 rfl (lv_at hl 1 rfl) ?_
      refine lv_iload_n hx hb dX3_set_18 rfl (lv_at hl 2 rfl) ?_
      obtain ⟨s1_5, s2_5, s3_5, s4_5, s5_5, s6_5, s7_5, pa_5, lm_5, s8_5, s9_5, s10_5, fm_5, s11_5, nm_5, s12_5, s13_5, s14_5, rm_5, s15_5, s16_5, s17_5, s18_5, e_5, fs1_5, fs2_5, fs3_5, fs4_5, fs5_5, fs6_5, fs7_5, flm_5, fs8_5, fs9_5, fs10_5, ffm_5, fs11_5, fnm_5, fs12_5, fs13_5, fs14_5, frm_5, fs15_5, fs16_5, fs17_5, fs18_5⟩ := hPI.a10 hg0
      obtain ⟨k_5, hk_5⟩ := va_plg hg0.1 e_5
      refine va_calli (va_runV (b := g0) (As := [.int p0, .int p1]) (rest := []) ⟨hx, hb, hml, hown, hts⟩ (q_X3_isOther l dC dI TT H.size kI kJ kZ K L f hPI g0 hg0 p0 p1 (by constructor <;> omega)) (cwV 2 hts gX3_set_X3_isOther rfl rfl rfl (by decide +kernel) ⟨Nat.le_of_ble_eq_true rfl, Nat.le_of_ble_eq_true rfl⟩) ⟨pr_blind, va_recv hK hP (ci := 3) rfl hk_5, (pr_S (ws := va_pl L f) (wA := []) (tys := [(kI, .int), (kJ, .long), (kZ, .boolean)]) hP hK vd_nil hst hS (ro_free hS hA)).2⟩ rfl rfl hl.1 rfl (lv_room (Nat.le_of_ble_eq_true rfl)) dX3_set_19 ⟨Nat.le_of_ble_eq_true rfl, Nat.le_of_ble_eq_true rfl⟩) hS (fun q _ h => (ro_free hS hA) q h) (ro_free hS hA) (fun r_6 u t H1 locs ht hvm hw hB hz1 hk1 hS => ?_)
      have hP := ro_keep hP hk1
      generalize H1 = H at hP hS ⊢
      rcases hw with rfl | rfl
      · refine lv_if_ne (tgt := 35) hx hb dX3_set_22 (by decide) (fun _ => ?_) (fun c9 => absurd c9 (by decide))
        refine lv_aload_n hx hb dX3_set_35 rfl (lv_at hl 0 rfl) ?_
        obtain ⟨k_7, hk_7⟩ := va_plg hg0.1 e_5
        refine va_get (D := (dC, dI)) (ci := 3) (v := .ref s1_5) (C := RX3) (T := TX3) (N := 23) hx hb hts iX3_ hown hK hP k_7 hk_7 rfl 0 (by decide) (hts (.fieldLink RX3 7 "FieldLeavesModel" "slot" "[I") (by decide +kernel)) (fun _ h9 => h9) rfl dX3_set_36 ?_
        refine lv_iload_n hx hb dX3_set_39 rfl (lv_at hl 1 rfl) ?_
        obtain ⟨g_8, e_8, fg_8⟩ := hPI.a11 fs1_5
        obtain ⟨k_8, hk_8⟩ := va_plg fs1_5.1 e_8
        have h_8 : vp_in p0 12 := (vp_in_iff.mpr (by constructor <;> omega))
        refine va_iald hx hb hK hP k_8 0 hk_8 rfl h_8 dX3_set_40 ?_
        refine lv_topi (fun z_8 ez_8 => ?_)
        have fz_8 := fg_8 _ (vp_lt h_8)
        rw [← ez_8] at fz_8
        refine lv_iconst (v := (-1)) hx hb dX3_set_41 (by decide) ?_
        refine lv_icmp_ne (tgt := 50) hx hb dX3_set_42 (by decide) (fun c_9 => ?_) (fun c_9 => ?_)
        · have c_9 := mt Int32.toInt_inj.mp c_9
          refine lv_bipush (v := (-14)) hx hb dX3_set_50 (by decide) ?_
          exact W.iret (v := (-14)) hx hb hr (fun t ht hW => ⟨⟨(-14), (), rfl, trivial, f, hPI, hfr, by rw [ht]; exact hP, hD⟩, hS.F ht⟩) hS.2.2 dX3_set_52
        · have c_9 := congrArg Int32.toInt c_9
          refine lv_bipush (v := (-11)) hx hb dX3_set_45 (by decide) ?_
          refine lv_goto (tgt := 52) hx hb dX3_set_47 (by decide) ?_
          exact W.iret (v := (-11)) hx hb hr (fun t ht hW => ⟨⟨(-11), (), rfl, trivial, f, hPI, hfr, by rw [ht]; exact hP, hD⟩, hS.F ht⟩) hS.2.2 dX3_set_52
      · refine lv_if_ne (tgt := 35) hx hb dX3_set_22 (by decide) (fun c9 => absurd c9 (by decide)) (fun _ => ?_)
        refine lv_aload_n hx hb dX3_set_25 rfl (lv_at hl 0 rfl) ?_
        obtain ⟨k_10, hk_10⟩ := va_plg hg0.1 e_5
        refine va_get (D := (dC, dI)) (ci := 3) (v := .ref s1_5) (C := RX3) (T := TX3) (N := 23) hx hb hts iX3_ hown hK hP k_10 hk_10 rfl 0 (by decide) (hts (.fieldLink RX3 7 "FieldLeavesModel" "slot" "[I") (by decide +kernel)) (fun _ h9 => h9) rfl dX3_set_26 ?_
        refine lv_iload_n hx hb dX3_set_29 rfl (lv_at hl 1 rfl) ?_
        obtain ⟨g_11, e_11, fg_11⟩ := hPI.a11 fs1_5
        obtain ⟨k_11, hk_11⟩ := va_plg fs1_5.1 e_11
        have h_11 : vp_in p0 12 := (vp_in_iff.mpr (by constructor <;> omega))
        refine va_iald hx hb hK hP k_11 0 hk_11 rfl h_11 dX3_set_30 ?_
        refine lv_topi (fun z_11 ez_11 => ?_)
        have fz_11 := fg_11 _ (vp_lt h_11)
        rw [← ez_11] at fz_11
        refine lv_iconst (v := (-1)) hx hb dX3_set_31 (by decide) ?_
        refine lv_icmp_ne (tgt := 53) hx hb dX3_set_32 (by decide) (fun c_12 => ?_) (fun c_12 => ?_)
        · have c_12 := mt Int32.toInt_inj.mp c_12
          refine lv_iload_n hx hb dX3_set_53 rfl (lv_at hl 2 rfl) ?_
          refine lv_bipush (v := 13) hx hb dX3_set_54 (by decide) ?_
          refine lv_icmp_eq (tgt := 65) hx hb dX3_set_56 (by decide) (fun c_13 => ?_) (fun c_13 => ?_)
          · have c_13 := congrArg Int32.toInt c_13
            refine lv_bipush (v := (-17)) hx hb dX3_set_65 (by decide) ?_
            exact W.iret (v := (-17)) hx hb hr (fun t ht hW => ⟨⟨(-17), (), rfl, trivial, f, hPI, hfr, by rw [ht]; exact hP, hD⟩, hS.F ht⟩) hS.2.2 dX3_set_67
          · have c_13 := mt Int32.toInt_inj.mp c_13
            refine lv_iload_n hx hb dX3_set_59 rfl (lv_at hl 2 rfl) ?_
            refine lv_bipush (v := 16) hx hb dX3_set_60 (by decide) ?_
            refine lv_icmp_ne (tgt := 68) hx hb dX3_set_62 (by decide) (fun c_14 => ?_) (fun c_14 => ?_)
            · have c_14 := mt Int32.toInt_inj.mp c_14
              refine lv_aload_n hx hb dX3_set_68 rfl (lv_at hl 0 rfl) ?_
              obtain ⟨k_15, hk_15⟩ := va_plg hg0.1 e_5
              refine va_get (D := (dC, dI)) (ci := 3) (v := .ref s3_5) (C := RX3) (T := TX3) (N := 23) hx hb hts iX3_ hown hK hP k_15 hk_15 rfl 2 (by decide) (hts (.fieldLink RX3 17 "FieldLeavesModel" "field" "[J") (by decide +kernel)) (fun _ h9 => h9) rfl dX3_set_69 ?_
              refine lv_bipush (v := 17) hx hb dX3_set_72 (by decide) ?_
              refine lv_aload_n hx hb dX3_set_74 rfl (lv_at hl 0 rfl) ?_
              obtain ⟨k_16, hk_16⟩ := va_plg hg0.1 e_5
              refine va_get (D := (dC, dI)) (ci := 3) (v := .ref s1_5) (C := RX3) (T := TX3) (N := 23) hx hb hts iX3_ hown hK hP k_16 hk_16 rfl 0 (by decide) (hts (.fieldLink RX3 7 "FieldLeavesModel" "slot" "[I") (by decide +kernel)) (fun _ h9 => h9) rfl dX3_set_75 ?_
              refine lv_iload_n hx hb dX3_set_78 rfl (lv_at hl 1 rfl) ?_
              obtain ⟨k_17, hk_17⟩ := va_plg fs1_5.1 e_11
              have h_17 : vp_in p0 12 := (vp_in_iff.mpr (by constructor <;> omega))
              refine va_iald hx hb hK hP k_17 0 hk_17 rfl h_17 dX3_set_79 ?_
              refine lv_topi (fun z_17 ez_17 => ?_)
              obtain rfl : z_11 = z_17 := ez_11.trans ez_17.symm
              refine lv_imul hx hb dX3_set_80 ?_
              refine lv_topi (fun z_18 ez_18 => ?_)
              have kz_18 := mul17 ez_18 (by omega) (by omega)
              refine lv_iload_n hx hb dX3_set_81 rfl (lv_at hl 2 rfl) ?_
              refine lv_iadd hx hb dX3_set_82 ?_
              refine lv_topi (fun z_19 ez_19 => ?_)
              have kz_19 := add_toInt ez_19 (by omega) (by omega)
              refine lv_iload_n hx hb dX3_set_83 rfl (lv_at hl 2 rfl) ?_
              refine lv_lload_n hx hb dX3_set_84 rfl (lv_at hl 3 rfl) ?_
              refine va_calll (va_runS (As := [.int p1, .long p2]) (rest := [.int z_19, .ref s3_5]) ⟨hx, hb, hml, hown, hts⟩ (q_X3_valueOf l dC dI TT H.size kI kJ kZ K L f hPI p1 p2) (va_cwS 2 hts gX3_set_X3_valueOf rfl rfl rfl (by decide +kernel) ⟨Nat.le_of_ble_eq_true rfl, Nat.le_of_ble_eq_true rfl⟩) (pr_S (ws := va_pl L f) (wA := []) (tys := [(kI, .int), (kJ, .long), (kZ, .boolean)]) hP hK vd_nil hst hS (ro_free hS hA)) rfl rfl hl.1 rfl (lv_room (Nat.le_of_ble_eq_true rfl)) dX3_set_85 ⟨Nat.le_of_ble_eq_true rfl, Nat.le_of_ble_eq_true rfl⟩) hS (fun q _ h => (ro_free hS hA) q h) (ro_free hS hA) (fun r_20 u t H1 locs ht hvm hw hB hz1 hk1 hS => ?_)
              have hP := ro_keep hP hk1
              generalize H1 = H at hP hS ⊢
              obtain ⟨g_21, e_21, fg_21⟩ := hPI.a13 fs3_5
              obtain ⟨k_21, hk_21⟩ := va_plg fs3_5.1 e_21
              have h_21 : vp_in z_19 108800 := (vp_in_iff.mpr (by constructor <;> omega))
              have fw_21 := rgF.plain fg_21 (o := z_11) (f := p1) (w := z_19) (v := r_20) (by constructor <;> omega) (by omega) (by omega)
              have hD9 := hD
              refine va_last hx hb hK hP hD hS k_21 1 hk_21 rfl h_21 dX3_set_88 (fun H locs hP hD hS => ?_)
              have hP : va_P (dC, dI) vwCl (va_pl L (va_up f s3_5 (.inl (kJ, 108800, .inr (.inl (vp_updL g_21 (Int32.toNatClampNeg z_19) r_20)))))) H := by rw [← va_pls hD9 fs3_5.1 hk_21 _]; exact hP
              have hD : va_D A (va_pl L (va_up f s3_5 (.inl (kJ, 108800, .inr (.inl (vp_updL g_21 (Int32.toNatClampNeg z_19) r_20)))))) := by rw [← va_pls hD9 fs3_5.1 hk_21 _]; exact hD
              have hPI := hPI.put (e := .inl (kJ, 108800, .inr (.inl (vp_updL g_21 (Int32.toNatClampNeg z_19) r_20)))) fs3_5 ⟨_, rfl, fw_21⟩
              have es_f_22 : va_up f s3_5 (.inl (kJ, 108800, .inr (.inl (vp_updL g_21 (Int32.toNatClampNeg z_19) r_20)))) s3_5 = .inl (kJ, 108800, .inr (.inl (vp_updL g_21 (Int32.toNatClampNeg z_19) r_20))) := va_up_self _ _ _
              have eq_23 := (va_up_ne f (.inl (kJ, 108800, .inr (.inl (vp_updL g_21 (Int32.toNatClampNeg z_19) r_20)))) (isr_ne hg0 fs3_5 (by decide))).trans e_5
              have eq_24 := (va_up_ne f (.inl (kJ, 108800, .inr (.inl (vp_updL g_21 (Int32.toNatClampNeg z_19) r_20)))) (isr_ne fs1_5 fs3_5 (by decide))).trans e_11
              have hfr := fr_up (S := (sK [13])) (e := .inl (kJ, 108800, .inr (.inl (vp_updL g_21 (Int32.toNatClampNeg z_19) r_20)))) hfr fs3_5 (by decide)
              generalize va_up f s3_5 (.inl (kJ, 108800, .inr (.inl (vp_updL g_21 (Int32.toNatClampNeg z_19) r_20)))) = f_22 at hP hD hPI es_f_22 eq_23 eq_24 hfr
              refine lv_iconst (v := 1) hx hb dX3_set_89 (by decide) ?_
              exact W.iret (v := 1) hx hb hr (fun t ht hW => ⟨⟨1, (), rfl, trivial, f_22, hPI, hfr, by rw [ht]; exact hP, hD⟩, hS.F ht⟩) hS.2.2 dX3_set_90
            · have c_14 := congrArg Int32.toInt c_14
              refine lv_bipush (v := (-17)) hx hb dX3_set_65 (by decide) ?_
              exact W.iret (v := (-17)) hx hb hr (fun t ht hW => ⟨⟨(-17), (), rfl, trivial, f, hPI, hfr, by rw [ht]; exact hP, hD⟩, hS.F ht⟩) hS.2.2 dX3_set_67
        · have c_12 := congrArg Int32.toInt c_12
          refine lv_aload_n hx hb dX3_set_35 rfl (lv_at hl 0 rfl) ?_
          obtain ⟨k_25, hk_25⟩ := va_plg hg0.1 e_5
          refine va_get (D := (dC, dI)) (ci := 3) (v := .ref s1_5) (C := RX3) (T := TX3) (N := 23) hx hb hts iX3_ hown hK hP k_25 hk_25 rfl 0 (by decide) (hts (.fieldLink RX3 7 "FieldLeavesModel" "slot" "[I") (by decide +kernel)) (fun _ h9 => h9) rfl dX3_set_36 ?_
          refine lv_iload_n hx hb dX3_set_39 rfl (lv_at hl 1 rfl) ?_
          obtain ⟨k_26, hk_26⟩ := va_plg fs1_5.1 e_11
          have h_26 : vp_in p0 12 := (vp_in_iff.mpr (by constructor <;> omega))
          refine va_iald hx hb hK hP k_26 0 hk_26 rfl h_26 dX3_set_40 ?_
          refine lv_topi (fun z_26 ez_26 => ?_)
          obtain rfl : z_11 = z_26 := ez_11.trans ez_26.symm
          refine lv_iconst (v := (-1)) hx hb dX3_set_41 (by decide) ?_
          refine lv_icmp_ne (tgt := 50) hx hb dX3_set_42 (by decide) (fun c_27 => ?_) (fun c_27 => ?_)
          · have c_27 := mt Int32.toInt_inj.mp c_27
            refine lv_bipush (v := (-14)) hx hb dX3_set_50 (by decide) ?_
            exact W.iret (v := (-14)) hx hb hr (fun t ht hW => ⟨⟨(-14), (), rfl, trivial, f, hPI, hfr, by rw [ht]; exact hP, hD⟩, hS.F ht⟩) hS.2.2 dX3_set_52
          · have c_27 := congrArg Int32.toInt c_27
            refine lv_bipush (v := (-11)) hx hb dX3_set_45 (by decide) ?_
            refine lv_goto (tgt := 52) hx hb dX3_set_47 (by decide) ?_
            exact W.iret (v := (-11)) hx hb hr (fun t ht hW => ⟨⟨(-11), (), rfl, trivial, f, hPI, hfr, by rw [ht]; exact hP, hD⟩, hS.F ht⟩) hS.2.2 dX3_set_52
    · refine lv_if_ne (tgt := 16) hx hb dX3_set_11 (by decide) (fun c9 => absurd c9 (by decide)) (fun _ => ?_)
      refine lv_iconst (v := (-1)) hx hb dX3_set_14 (by decide) ?_
      exact W.iret (v := (-1)) hx hb hr (fun t ht hW => ⟨⟨(-1), (), rfl, trivial, f, hPI, hfr, by rw [ht]; exact hP, hD⟩, hS.F ht⟩) hS.2.2 dX3_set_15
  · refine lv_if_eq (tgt := 14) hx hb dX3_set_4 (by decide) (fun _ => ?_) (fun c9 => absurd c9 (by decide))
    refine lv_iconst (v := (-1)) hx hb dX3_set_14 (by decide) ?_
    exact W.iret (v := (-1)) hx hb hr (fun t ht hW => ⟨⟨(-1), (), rfl, trivial, f, hPI, hfr, by rw [ht]; exact hP, hD⟩, hS.F ht⟩) hS.2.2 dX3_set_15
set_option maxRecDepth 20000 in
theorem in_q_X3_put_X3 : ∀ w ∈ u_ws RX3 TX3 23, w ∈ wsX3_put := by decide +kernel
set_option maxRecDepth 100000 in
set_option maxHeartbeats 4000000 in
theorem q_X3_put (l : Launch) (dC : Nat → ClassId) (dI : Nat → Nat → Nat) (TT : Nat × Nat × Nat) (sz : Nat) (kI kJ kZ : ClassId) (K : Nat → Nat) (L : List Nat) (f : Nat → va_E) (hPI : PR kI kJ kZ K L f) (g0 : Nat) (hg0 : isr K L 10 g0) (p0 : Int32) (p1 : Int32) (p2 : Int32) : Met l yX3_put wsX3_put ({ frames := 3, cells := 0, slots := 0, locals := 64 } : Room) (va_Pc [.ref g0, .int p0, .int p1, .int p2] (pr dC dI (va_pl L f) (va_pl L f) [(kI, .int), (kJ, .long), (kZ, .boolean)] sz TT)) (va_Qi (fun (r : Int32) (u : Unit) => True) (fun (_ : Unit) t => ∃ f2 : Nat → va_E, PR kI kJ kZ K L f2 ∧ (FR (sK [15]) K L f f2) ∧ va_P (dC, dI) vwCl (va_pl L f2) t.heap ∧ va_D (va_A (va_pl L f) sz) (va_pl L f2)) (va_A (va_pl L f) sz)) 0 0 (va_A (va_pl L f) sz) := by
  refine Met.ofW (cc := cX3_put) (maxL := 6) (ret := (some .int)) (by decide) rfl ?_
  intro p e s m args below meth c s₁ B hml hv
  obtain ⟨rfl, hsz, hP, hK, hD0, hst⟩ := hv
  have hx := B.exec
  have hb := B.bytes
  have hr := B.returns
  have hts := atoms_spec (ws := wsX3_put) B.pre
  have hown : s.vm.findClass RX3 = some m.cls := findClass_of_methodNamed B.named
  have hlocks := B.notSynchronized
  have iX3_ := in_q_X3_put_X3
  subst hsz
  have hD := hD0.self (sz := s.heap.size)
  generalize hAe : va_A (va_pl L f) s.heap.size = A at hD hst ⊢
  have hA : ∀ q : Nat, s.heap.size ≤ q → A q := fun q h => by rw [← hAe]; exact Or.inr h
  have hS : va_S A s.heap s.heap [] := va_S.rf
  have hl := lv_entry ([.ref g0, .int p0, .int p1, .int p2]) (n := 6) (Nat.le_of_ble_eq_true rfl)
  rw [lg_entry_eq]
  generalize (lg_sl ([.ref g0, .int p0, .int p1, .int p2]) ++ List.replicate (6 - (lg_sl ([.ref g0, .int p0, .int p1, .int p2])).length) Slot.unset).toArray = ls at hl ⊢
  have hl : lv_has ls 6 [(0, .ref g0), (1, .int p0), (2, .int p1), (3, .int p2)] := hl
  have km12_ : Int32.toInt (-12) = -12 := by decide
  have km1_ : Int32.toInt (-1) = -1 := by decide
  have k0_ : Int32.toInt 0 = 0 := by decide
  have k1_ : Int32.toInt 1 = 1 := by decide
  have kl0_ : Int64.toInt 0 = 0 := by decide
  have hfr : FR (sK [15]) K L f f := FR.rf
  refine lv_iload_n hx hb dX3_put_0 rfl (lv_at hl 1 rfl) ?_
  refine va_calli (va_runS (As := [.int p0]) (rest := []) ⟨hx, hb, hml, hown, hts⟩ (c_X3_isSlot l dC dI TT s.heap.size p0) (va_cwS 1 hts gX3_put_X3_isSlot rfl rfl rfl (by decide +kernel) ⟨Nat.le_of_ble_eq_true rfl, Nat.le_of_ble_eq_true rfl⟩) (pr_S (ws := []) (wA := []) (tys := []) vp_nil (hK.sub [] rfl) vd_nil hst hS (ro_free hS hA)) rfl rfl hl.1 rfl (lv_room (Nat.le_of_ble_eq_true rfl)) dX3_put_1 ⟨Nat.le_of_ble_eq_true rfl, Nat.le_of_ble_eq_true rfl⟩) hS (fun q _ h => (ro_free hS hA) q h) (ro_free hS hA) (fun r_1 u t H1 locs ht hvm hw hB hz1 hk1 hS => ?_)
  have hP := ro_keep hP hk1
  generalize H1 = H at hP hS ⊢
  rcases hw with ⟨rfl, hp_2⟩ | ⟨rfl, hp_2⟩
  · refine lv_if_ne (tgt := 9) hx hb dX3_put_4 (by decide) (fun _ => ?_) (fun c9 => absurd c9 (by decide))
    refine lv_aload_n hx hb dX3_put_9 rfl (lv_at hl 0 rfl) ?_
    refine lv_iload_n hx hb dX3_put_10 rfl (lv_at hl 1 rfl) ?_
    obtain ⟨s1_3, s2_3, s3_3, s4_3, s5_3, s6_3, s7_3, pa_3, lm_3, s8_3, s9_3, s10_3, fm_3, s11_3, nm_3, s12_3, s13_3, s14_3, rm_3, s15_3, s16_3, s17_3, s18_3, e_3, fs1_3, fs2_3, fs3_3, fs4_3, fs5_3, fs6_3, fs7_3, flm_3, fs8_3, fs9_3, fs10_3, ffm_3, fs11_3, fnm_3, fs12_3, fs13_3, fs14_3, frm_3, fs15_3, fs16_3, fs17_3, fs18_3⟩ := hPI.a10 hg0
    obtain ⟨k_3, hk_3⟩ := va_plg hg0.1 e_3
    obtain ⟨g_4, e_4, fg_4⟩ := hPI.a11 fs1_3
    obtain ⟨k_4, hk_4⟩ := va_plg fs1_3.1 e_4
    obtain ⟨k_5, hk_5⟩ := va_plg hg0.1 e_3
    refine va_calli (va_runV (b := g0) (As := [.int p0]) (rest := []) ⟨hx, hb, hml, hown, hts⟩ (q_X3_rowless l dC dI TT H.size kI kJ kZ K L f hPI g0 hg0 p0 (by constructor <;> omega)) (cwV 1 hts gX3_put_X3_rowless rfl rfl rfl (by decide +kernel) ⟨Nat.le_of_ble_eq_true rfl, Nat.le_of_ble_eq_true rfl⟩) ⟨pr_blind, va_recv hK hP (ci := 3) rfl hk_5, (pr_S (ws := va_pl L f) (wA := []) (tys := [(kI, .int), (kJ, .long), (kZ, .boolean)]) hP hK vd_nil hst hS (ro_free hS hA)).2⟩ rfl rfl hl.1 rfl (lv_room (Nat.le_of_ble_eq_true rfl)) dX3_put_11 ⟨Nat.le_of_ble_eq_true rfl, Nat.le_of_ble_eq_true rfl⟩) hS (fun q _ h => (ro_free hS hA) q h) (ro_free hS hA) (fun r_6 u t H1 locs ht hvm hw hB hz1 hk1 hS => ?_)
    have hP := ro_keep hP hk1
    generalize H1 = H at hP hS ⊢
    have rl_7 := fun h9 => hw h9 _ _ _ e_3 e_4
    refine lv_istore (lv' := [(4, .int r_6), (0, .ref g0), (1, .int p0), (2, .int p1), (3, .int p2)]) hx hb dX3_put_14 hl (by decide) rfl (fun ls hl => ?_)
    refine lv_iload hx hb dX3_put_16 (lv_at hl 0 rfl) ?_
    refine lv_if_eq (tgt := 24) hx hb dX3_put_18 (by decide) (fun c_8 => ?_) (fun c_8 => ?_)
    · have c_8 := congrArg Int32.toInt c_8
      refine lv_iload_n hx hb dX3_put_24 rfl (lv_at hl 3 rfl) ?_
      refine lv_i2l (v := Int32.toInt64 p1) hx hb dX3_put_25 rfl ?_
      have k_z_9 := Int32.toInt_toInt64 p1
      refine lv_lconst (v := 0) hx hb dX3_put_26 (by decide) ?_
      refine lv_aload_n hx hb dX3_put_27 rfl (lv_at hl 1 rfl) ?_
      obtain ⟨k_10, hk_10⟩ := va_plg hg0.1 e_3
      refine va_get (D := (dC, dI)) (ci := 3) (v := .ref s4_3) (C := RX3) (T := TX3) (N := 23) hx hb hts iX3_ hown hK hP k_10 hk_10 rfl 3 (by decide) (hts (.fieldLink RX3 21 "FieldLeavesModel" "rowSize" "[I") (by decide +kernel)) (fun _ h9 => h9) rfl dX3_put_28 ?_
      refine lv_aload_n hx hb dX3_put_31 rfl (lv_at hl 1 rfl) ?_
      obtain ⟨k_11, hk_11⟩ := va_plg hg0.1 e_3
      refine va_get (D := (dC, dI)) (ci := 3) (v := .ref s1_3) (C := RX3) (T := TX3) (N := 23) hx hb hts iX3_ hown hK hP k_11 hk_11 rfl 0 (by decide) (hts (.fieldLink RX3 7 "FieldLeavesModel" "slot" "[I") (by decide +kernel)) (fun _ h9 => h9) rfl dX3_put_32 ?_
      refine lv_iload_n hx hb dX3_put_35 rfl (lv_at hl 2 rfl) ?_
      obtain ⟨k_12, hk_12⟩ := va_plg fs1_3.1 e_4
      have h_12 : vp_in p0 12 := (vp_in_iff.mpr (by constructor <;> omega))
      refine va_iald hx hb hK hP k_12 0 hk_12 rfl h_12 dX3_put_36 ?_
      refine lv_topi (fun z_12 ez_12 => ?_)
      have fz_12 := fg_4 _ (vp_lt h_12)
      rw [← ez_12] at fz_12
      rw [← ez_12] at rl_7
      obtain ⟨g_13, e_13, fg_13⟩ := hPI.a14 fs4_3
      obtain ⟨k_13, hk_13⟩ := va_plg fs4_3.1 e_13
      have h_13 : vp_in z_12 6400 := (vp_in_iff.mpr (by constructor <;> omega))
      refine va_iald hx hb hK hP k_13 0 hk_13 rfl h_13 dX3_put_37 ?_
      refine lv_topi (fun z_13 ez_13 => ?_)
      have fz_13 := fg_13 _ (vp_lt h_13)
      rw [← ez_13] at fz_13
      refine lv_iconst (v := 1) hx hb dX3_put_38 (by decide) ?_
      refine lv_isub hx hb dX3_put_39 ?_
      refine lv_topi (fun z_14 ez_14 => ?_)
      have kz_14 := sub_toInt2 ez_14 (by omega) (by omega)
      refine lv_i2l (v := Int32.toInt64 z_14) hx hb dX3_put_40 rfl ?_
      have k_z_15 := Int32.toInt_toInt64 z_14
      refine va_calli (va_runS (As := [.long (Int32.toInt64 p1), .long 0, .long (Int32.toInt64 z_14)]) (rest := []) ⟨hx, hb, hml, hown, hts⟩ (c_X3_in l dC dI TT H.size (Int32.toInt64 p1) 0 (Int32.toInt64 z_14)) (va_cwS 3 hts gX3_put_X3_in rfl rfl rfl (by decide +kernel) ⟨Nat.le_of_ble_eq_true rfl, Nat.le_of_ble_eq_true rfl⟩) (pr_S (ws := []) (wA := []) (tys := []) vp_nil (hK.sub [] rfl) vd_nil hst hS (ro_free hS hA)) rfl rfl hl.1 rfl (lv_room (Nat.le_of_ble_eq_true rfl)) dX3_put_41 ⟨Nat.le_of_ble_eq_true rfl, Nat.le_of_ble_eq_true rfl⟩) hS (fun q _ h => (ro_free hS hA) q h) (ro_free hS hA) (fun r_16 u t H1 locs ht hvm hw hB hz1 hk1 hS => ?_)
      have hP := ro_keep hP hk1
      generalize H1 = H at hP hS ⊢
      rcases hw with ⟨rfl, hp_17⟩ | ⟨rfl, hp_17⟩
      · refine lv_if_ne (tgt := 50) hx hb dX3_put_44 (by decide) (fun _ => ?_) (fun c9 => absurd c9 (by decide))
        refine lv_aload_n hx hb dX3_put_50 rfl (lv_at hl 1 rfl) ?_
        obtain ⟨k_18, hk_18⟩ := va_plg hg0.1 e_3
        refine va_get (D := (dC, dI)) (ci := 3) (v := .ref s5_3) (C := RX3) (T := TX3) (N := 23) hx hb hts iX3_ hown hK hP k_18 hk_18 rfl 4 (by decide) (hts (.fieldLink RX3 25 "FieldLeavesModel" "rows" "[I") (by decide +kernel)) (fun _ h9 => h9) rfl dX3_put_51 ?_
        refine lv_bipush (v := 20) hx hb dX3_put_54 (by decide) ?_
        refine lv_aload_n hx hb dX3_put_56 rfl (lv_at hl 1 rfl) ?_
        obtain ⟨k_19, hk_19⟩ := va_plg hg0.1 e_3
        refine va_get (D := (dC, dI)) (ci := 3) (v := .ref s1_3) (C := RX3) (T := TX3) (N := 23) hx hb hts iX3_ hown hK hP k_19 hk_19 rfl 0 (by decide) (hts (.fieldLink RX3 7 "FieldLeavesModel" "slot" "[I") (by decide +kernel)) (fun _ h9 => h9) rfl dX3_put_57 ?_
        refine lv_iload_n hx hb dX3_put_60 rfl (lv_at hl 2 rfl) ?_
        obtain ⟨k_20, hk_20⟩ := va_plg fs1_3.1 e_4
        have h_20 : vp_in p0 12 := (vp_in_iff.mpr (by constructor <;> omega))
        refine va_iald hx hb hK hP k_20 0 hk_20 rfl h_20 dX3_put_61 ?_
        refine lv_topi (fun z_20 ez_20 => ?_)
        obtain rfl : z_12 = z_20 := ez_12.trans ez_20.symm
        refine lv_imul hx hb dX3_put_62 ?_
        refine lv_topi (fun z_21 ez_21 => ?_)
        have kz_21 := mul20 ez_21 (by omega) (by omega)
        refine lv_iload_n hx hb dX3_put_63 rfl (lv_at hl 3 rfl) ?_
        refine lv_iadd hx hb dX3_put_64 ?_
        refine lv_topi (fun z_22 ez_22 => ?_)
        have kz_22 := add_toInt ez_22 (by omega) (by omega)
        obtain ⟨g_23, e_23, fg_23⟩ := hPI.a15 fs5_3
        obtain ⟨k_23, hk_23⟩ := va_plg fs5_3.1 e_23
        have h_23 : vp_in z_22 128000 := (vp_in_iff.mpr (by constructor <;> omega))
        refine va_iald hx hb hK hP k_23 0 hk_23 rfl h_23 dX3_put_65 ?_
        refine lv_topi (fun z_23 ez_23 => ?_)
        refine lv_istore (lv' := [(5, .int z_23), (4, .int r_6), (0, .ref g0), (1, .int p0), (2, .int p1), (3, .int p2)]) hx hb dX3_put_66 hl (by decide) rfl (fun ls hl => ?_)
        refine lv_aload_n hx hb dX3_put_68 rfl (lv_at hl 2 rfl) ?_
        obtain ⟨k_24, hk_24⟩ := va_plg hg0.1 e_3
        refine va_get (D := (dC, dI)) (ci := 3) (v := .ref s5_3) (C := RX3) (T := TX3) (N := 23) hx hb hts iX3_ hown hK hP k_24 hk_24 rfl 4 (by decide) (hts (.fieldLink RX3 25 "FieldLeavesModel" "rows" "[I") (by decide +kernel)) (fun _ h9 => h9) rfl dX3_put_69 ?_
        refine lv_bipush (v := 20) hx hb dX3_put_72 (by decide) ?_
        refine lv_aload_n hx hb dX3_put_74 rfl (lv_at hl 2 rfl) ?_
        obtain ⟨k_25, hk_25⟩ := va_plg hg0.1 e_3
        refine va_get (D := (dC, dI)) (ci := 3) (v := .ref s1_3) (C := RX3) (T := TX3) (N := 23) hx hb hts iX3_ hown hK hP k_25 hk_25 rfl 0 (by decide) (hts (.fieldLink RX3 7 "FieldLeavesModel" "slot" "[I") (by decide +kernel)) (fun _ h9 => h9) rfl dX3_put_75 ?_
        refine lv_iload_n hx hb dX3_put_78 rfl (lv_at hl 3 rfl) ?_
        obtain ⟨k_26, hk_26⟩ := va_plg fs1_3.1 e_4
        have h_26 : vp_in p0 12 := (vp_in_iff.mpr (by constructor <;> omega))
        refine va_iald hx hb hK hP k_26 0 hk_26 rfl h_26 dX3_put_79 ?_
        refine lv_topi (fun z_26 ez_26 => ?_)
        obtain rfl : z_12 = z_26 := ez_12.trans ez_26.symm
        refine lv_imul hx hb dX3_put_80 ?_
        refine lv_topi (fun z_27 ez_27 => ?_)
        have kz_27 := mul20 ez_27 (by omega) (by omega)
        refine lv_iload_n hx hb dX3_put_81 rfl (lv_at hl 4 rfl) ?_
        refine lv_iadd hx hb dX3_put_82 ?_
        refine lv_topi (fun z_28 ez_28 => ?_)
        have kz_28 := add_toInt ez_28 (by omega) (by omega)
        refine lv_iload_n hx hb dX3_put_83 rfl (lv_at hl 5 rfl) ?_
        obtain ⟨k_29, hk_29⟩ := va_plg fs5_3.1 e_23
        have h_29 : vp_in z_28 128000 := (vp_in_iff.mpr (by constructor <;> omega))
        have fw_29 := trivial
        have hD9 := hD
        refine va_iast hx hb hK hP hD hS k_29 0 hk_29 rfl h_29 dX3_put_84 (fun H locs hP hD hS => ?_)
        have hP : va_P (dC, dI) vwCl (va_pl L (va_up f s5_3 (.inl (kI, 128000, .inl (upd g_23 (Int32.toNatClampNeg z_28) p2))))) H := by rw [← va_pls hD9 fs5_3.1 hk_29 _]; exact hP
        have hD : va_D A (va_pl L (va_up f s5_3 (.inl (kI, 128000, .inl (upd g_23 (Int32.toNatClampNeg z_28) p2))))) := by rw [← va_pls hD9 fs5_3.1 hk_29 _]; exact hD
        have hPI := hPI.put (e := .inl (kI, 128000, .inl (upd g_23 (Int32.toNatClampNeg z_28) p2))) fs5_3 ⟨_, rfl, fw_29⟩
        have es_f_30 : va_up f s5_3 (.inl (kI, 128000, .inl (upd g_23 (Int32.toNatClampNeg z_28) p2))) s5_3 = .inl (kI, 128000, .inl (upd g_23 (Int32.toNatClampNeg z_28) p2)) := va_up_self _ _ _
        have eq_31 := (va_up_ne f (.inl (kI, 128000, .inl (upd g_23 (Int32.toNatClampNeg z_28) p2))) (isr_ne hg0 fs5_3 (by decide))).trans e_3
        have eq_32 := (va_up_ne f (.inl (kI, 128000, .inl (upd g_23 (Int32.toNatClampNeg z_28) p2))) (isr_ne fs1_3 fs5_3 (by decide))).trans e_4
        have eq_33 := (va_up_ne f (.inl (kI, 128000, .inl (upd g_23 (Int32.toNatClampNeg z_28) p2))) (isr_ne fs4_3 fs5_3 (by decide))).trans e_13
        have hfr := fr_up (S := (sK [15])) (e := .inl (kI, 128000, .inl (upd g_23 (Int32.toNatClampNeg z_28) p2))) hfr fs5_3 (by decide)
        generalize va_up f s5_3 (.inl (kI, 128000, .inl (upd g_23 (Int32.toNatClampNeg z_28) p2))) = f_30 at hP hD hPI es_f_30 eq_31 eq_32 eq_33 hfr
        refine lv_iload hx hb dX3_put_85 (lv_at hl 0 rfl) ?_
        exact W.iret (v := z_23) hx hb hr (fun t ht hW => ⟨⟨z_23, (), rfl, trivial, f_30, hPI, hfr, by rw [ht]; exact hP, hD⟩, hS.F ht⟩) hS.2.2 dX3_put_87
      · refine lv_if_ne (tgt := 50) hx hb dX3_put_44 (by decide) (fun c9 => absurd c9 (by decide)) (fun _ => ?_)
        refine lv_bipush (v := (-12)) hx hb dX3_put_47 (by decide) ?_
        exact W.iret (v := (-12)) hx hb hr (fun t ht hW => ⟨⟨(-12), (), rfl, trivial, f, hPI, hfr, by rw [ht]; exact hP, hD⟩, hS.F ht⟩) hS.2.2 dX3_put_49
    · have c_8 := mt Int32.toInt_inj.mp c_8
      refine lv_iload hx hb dX3_put_21 (lv_at hl 0 rfl) ?_
      exact W.iret (v := r_6) hx hb hr (fun t ht hW => ⟨⟨r_6, (), rfl, trivial, f, hPI, hfr, by rw [ht]; exact hP, hD⟩, hS.F ht⟩) hS.2.2 dX3_put_23
  · refine lv_if_ne (tgt := 9) hx hb dX3_put_4 (by decide) (fun c9 => absurd c9 (by decide)) (fun _ => ?_)
    refine lv_iconst (v := (-1)) hx hb dX3_put_7 (by decide) ?_
    exact W.iret (v := (-1)) hx hb hr (fun t ht hW => ⟨⟨(-1), (), rfl, trivial, f, hPI, hfr, by rw [ht]; exact hP, hD⟩, hS.F ht⟩) hS.2.2 dX3_put_8
set_option maxRecDepth 20000 in
theorem in_q_X3_passes_X3 : ∀ w ∈ u_ws RX3 TX3 23, w ∈ wsX3_passes := by decide +kernel
set_option maxRecDepth 100000 in
set_option maxHeartbeats 4000000 in
theorem q_X3_passes (l : Launch) (dC : Nat → ClassId) (dI : Nat → Nat → Nat) (TT : Nat × Nat × Nat) (sz : Nat) (kI kJ kZ : ClassId) (K : Nat → Nat) (L : List Nat) (f : Nat → va_E) (hPI : PR kI kJ kZ K L f) (g0 : Nat) (hg0 : isr K L 10 g0) (p0 : Int32) (p1 : Int32) : Met l yX3_passes wsX3_passes ({ frames := 3, cells := 0, slots := 0, locals := 67 } : Room) (va_Pc [.ref g0, .int p0, .int p1] (pr dC dI (va_pl L f) (va_pl L f) [(kI, .int), (kJ, .long), (kZ, .boolean)] sz TT)) (va_Qi (fun (r : Int32) (u : Unit) => True) (fun (_ : Unit) t => ∃ f2 : Nat → va_E, PR kI kJ kZ K L f2 ∧ (FR (sK [10]) K L f f2) ∧ va_P (dC, dI) vwCl (va_pl L f2) t.heap ∧ va_D (va_A (va_pl L f) sz) (va_pl L f2)) (va_A (va_pl L f) sz)) 0 0 (va_A (va_pl L f) sz) := by
  refine Met.ofW (cc := cX3_passes) (maxL := 3) (ret := (some .int)) (by decide) rfl ?_
  intro p e s m args below meth c s₁ B hml hv
  obtain ⟨rfl, hsz, hP, hK, hD0, hst⟩ := hv
  have hx := B.exec
  have hb := B.bytes
  have hr := B.returns
  have hts := atoms_spec (ws := wsX3_passes) B.pre
  have hown : s.vm.findClass RX3 = some m.cls := findClass_of_methodNamed B.named
  have hlocks := B.notSynchronized
  have iX3_ := in_q_X3_passes_X3
  subst hsz
  have hD := hD0.self (sz := s.heap.size)
  generalize hAe : va_A (va_pl L f) s.heap.size = A at hD hst ⊢
  have hA : ∀ q : Nat, s.heap.size ≤ q → A q := fun q h => by rw [← hAe]; exact Or.inr h
  have hS : va_S A s.heap s.heap [] := va_S.rf
  have hl := lv_entry ([.ref g0, .int p0, .int p1]) (n := 3) (Nat.le_of_ble_eq_true rfl)
  rw [lg_entry_eq]
  generalize (lg_sl ([.ref g0, .int p0, .int p1]) ++ List.replicate (3 - (lg_sl ([.ref g0, .int p0, .int p1])).length) Slot.unset).toArray = ls at hl ⊢
  have hl : lv_has ls 3 [(0, .ref g0), (1, .int p0), (2, .int p1)] := hl
  have km1_ : Int32.toInt (-1) = -1 := by decide
  have kl1_ : Int64.toInt 1 = 1 := by decide
  have kl12_ : Int64.toInt 12 = 12 := by decide
  have hfr : FR (sK [10]) K L f f := FR.rf
  refine lv_iload_n hx hb dX3_passes_0 rfl (lv_at hl 1 rfl) ?_
  refine va_calli (va_runS (As := [.int p0]) (rest := []) ⟨hx, hb, hml, hown, hts⟩ (c_X3_isSlot l dC dI TT s.heap.size p0) (va_cwS 1 hts gX3_passes_X3_isSlot rfl rfl rfl (by decide +kernel) ⟨Nat.le_of_ble_eq_true rfl, Nat.le_of_ble_eq_true rfl⟩) (pr_S (ws := []) (wA := []) (tys := []) vp_nil (hK.sub [] rfl) vd_nil hst hS (ro_free hS hA)) rfl rfl hl.1 rfl (lv_room (Nat.le_of_ble_eq_true rfl)) dX3_passes_1 ⟨Nat.le_of_ble_eq_true rfl, Nat.le_of_ble_eq_true rfl⟩) hS (fun q _ h => (ro_free hS hA) q h) (ro_free hS hA) (fun r_1 u t H1 locs ht hvm hw hB hz1 hk1 hS => ?_)
  have hP := ro_keep hP hk1
  generalize H1 = H at hP hS ⊢
  rcases hw with ⟨rfl, hp_2⟩ | ⟨rfl, hp_2⟩
  · refine lv_if_eq (tgt := 19) hx hb dX3_passes_4 (by decide) (fun c9 => absurd c9 (by decide)) (fun _ => ?_)
    refine lv_iload_n hx hb dX3_passes_7 rfl (lv_at hl 2 rfl) ?_
    refine lv_i2l (v := Int32.toInt64 p1) hx hb dX3_passes_8 rfl ?_
    have k_z_3 := Int32.toInt_toInt64 p1
    refine lv_lconst (v := 1) hx hb dX3_passes_9 (by decide) ?_
    refine lv_ldc2 hx hb hown (hts (.constantLong RX3 105 (12)) (by decide +kernel)) dX3_passes_10 ?_
    refine va_calli (va_runS (As := [.long (Int32.toInt64 p1), .long 1, .long 12]) (rest := []) ⟨hx, hb, hml, hown, hts⟩ (c_X3_in l dC dI TT H.size (Int32.toInt64 p1) 1 12) (va_cwS 3 hts gX3_passes_X3_in rfl rfl rfl (by decide +kernel) ⟨Nat.le_of_ble_eq_true rfl, Nat.le_of_ble_eq_true rfl⟩) (pr_S (ws := []) (wA := []) (tys := []) vp_nil (hK.sub [] rfl) vd_nil hst hS (ro_free hS hA)) rfl rfl hl.1 rfl (lv_room (Nat.le_of_ble_eq_true rfl)) dX3_passes_13 ⟨Nat.le_of_ble_eq_true rfl, Nat.le_of_ble_eq_true rfl⟩) hS (fun q _ h => (ro_free hS hA) q h) (ro_free hS hA) (fun r_4 u t H1 locs ht hvm hw hB hz1 hk1 hS => ?_)
    have hP := ro_keep hP hk1
    generalize H1 = H at hP hS ⊢
    rcases hw with ⟨rfl, hp_5⟩ | ⟨rfl, hp_5⟩
    · refine lv_if_ne (tgt := 21) hx hb dX3_passes_16 (by decide) (fun _ => ?_) (fun c9 => absurd c9 (by decide))
      refine lv_aload_n hx hb dX3_passes_21 rfl (lv_at hl 0 rfl) ?_
      refine lv_iload_n hx hb dX3_passes_22 rfl (lv_at hl 2 rfl) ?_
      obtain ⟨s1_6, s2_6, s3_6, s4_6, s5_6, s6_6, s7_6, pa_6, lm_6, s8_6, s9_6, s10_6, fm_6, s11_6, nm_6, s12_6, s13_6, s14_6, rm_6, s15_6, s16_6, s17_6, s18_6, e_6, fs1_6, fs2_6, fs3_6, fs4_6, fs5_6, fs6_6, fs7_6, flm_6, fs8_6, fs9_6, fs10_6, ffm_6, fs11_6, fnm_6, fs12_6, fs13_6, fs14_6, frm_6, fs15_6, fs16_6, fs17_6, fs18_6⟩ := hPI.a10 hg0
      obtain ⟨k_6, hk_6⟩ := va_plg hg0.1 e_6
      have hD9 := hD
      refine va_put (D := (dC, dI)) (ci := 3) (v := .int p1) (ty := .int) (C := RX3) (T := TX3) (N := 23) hx hb hts iX3_ tyX3 tyX3_ok nmX3 hown hK hP hD hS k_6 hk_6 rfl 7 (by decide) (hts (.fieldLink RX3 153 "FieldLeavesModel" "passed" "I") (by decide +kernel)) (fun _ h9 => h9) rfl (by decide +kernel) rfl rfl (Nat.le_of_ble_eq_true rfl) dX3_passes_23 (fun H locs hP hD hS => ?_)
      have hP : va_P (dC, dI) vwCl (va_pl L (va_up f g0 (.inr (3, [.ref s1_6, .ref s2_6, .ref s3_6, .ref s4_6, .ref s5_6, .ref s6_6, .ref s7_6, .int p1, .int lm_6, .ref s8_6, .ref s9_6, .ref s10_6, .int fm_6, .ref s11_6, .int nm_6, .ref s12_6, .ref s13_6, .ref s14_6, .int rm_6, .ref s15_6, .ref s16_6, .ref s17_6, .ref s18_6])))) H := by rw [← va_pls hD9 hg0.1 hk_6 _]; exact hP
      have hD : va_D A (va_pl L (va_up f g0 (.inr (3, [.ref s1_6, .ref s2_6, .ref s3_6, .ref s4_6, .ref s5_6, .ref s6_6, .ref s7_6, .int p1, .int lm_6, .ref s8_6, .ref s9_6, .ref s10_6, .int fm_6, .ref s11_6, .int nm_6, .ref s12_6, .ref s13_6, .ref s14_6, .int rm_6, .ref s15_6, .ref s16_6, .ref s17_6, .ref s18_6])))) := by rw [← va_pls hD9 hg0.1 hk_6 _]; exact hD
      have hPI := hPI.put (e := .inr (3, [.ref s1_6, .ref s2_6, .ref s3_6, .ref s4_6, .ref s5_6, .ref s6_6, .ref s7_6, .int p1, .int lm_6, .ref s8_6, .ref s9_6, .ref s10_6, .int fm_6, .ref s11_6, .int nm_6, .ref s12_6, .ref s13_6, .ref s14_6, .int rm_6, .ref s15_6, .ref s16_6, .ref s17_6, .ref s18_6])) hg0 ⟨s1_6, s2_6, s3_6, s4_6, s5_6, s6_6, s7_6, p1, lm_6, s8_6, s9_6, s10_6, fm_6, s11_6, nm_6, s12_6, s13_6, s14_6, rm_6, s15_6, s16_6, s17_6, s18_6, rfl, fs1_6, fs2_6, fs3_6, fs4_6, fs5_6, fs6_6, fs7_6, flm_6, fs8_6, fs9_6, fs10_6, ffm_6, fs11_6, fnm_6, fs12_6, fs13_6, fs14_6, frm_6, fs15_6, fs16_6, fs17_6, fs18_6⟩
      have es_f_7 : va_up f g0 (.inr (3, [.ref s1_6, .ref s2_6, .ref s3_6, .ref s4_6, .ref s5_6, .ref s6_6, .ref s7_6, .int p1, .int lm_6, .ref s8_6, .ref s9_6, .ref s10_6, .int fm_6, .ref s11_6, .int nm_6, .ref s12_6, .ref s13_6, .ref s14_6, .int rm_6, .ref s15_6, .ref s16_6, .ref s17_6, .ref s18_6])) g0 = .inr (3, [.ref s1_6, .ref s2_6, .ref s3_6, .ref s4_6, .ref s5_6, .ref s6_6, .ref s7_6, .int p1, .int lm_6, .ref s8_6, .ref s9_6, .ref s10_6, .int fm_6, .ref s11_6, .int nm_6, .ref s12_6, .ref s13_6, .ref s14_6, .int rm_6, .ref s15_6, .ref s16_6, .ref s17_6, .ref s18_6]) := va_up_self _ _ _
      have hfr := fr_up (S := (sK [10])) (e := .inr (3, [.ref s1_6, .ref s2_6, .ref s3_6, .ref s4_6, .ref s5_6, .ref s6_6, .ref s7_6, .int p1, .int lm_6, .ref s8_6, .ref s9_6, .ref s10_6, .int fm_6, .ref s11_6, .int nm_6, .ref s12_6, .ref s13_6, .ref s14_6, .int rm_6, .ref s15_6, .ref s16_6, .ref s17_6, .ref s18_6])) hfr hg0 (by decide)
      generalize va_up f g0 (.inr (3, [.ref s1_6, .ref s2_6, .ref s3_6, .ref s4_6, .ref s5_6, .ref s6_6, .ref s7_6, .int p1, .int lm_6, .ref s8_6, .ref s9_6, .ref s10_6, .int fm_6, .ref s11_6, .int nm_6, .ref s12_6, .ref s13_6, .ref s14_6, .int rm_6, .ref s15_6, .ref s16_6, .ref s17_6, .ref s18_6])) = f_7 at hP hD hPI es_f_7  hfr
      refine lv_aload_n hx hb dX3_passes_26 rfl (lv_at hl 0 rfl) ?_
      refine lv_iload_n hx hb dX3_passes_27 rfl (lv_at hl 1 rfl) ?_
      obtain ⟨k_8, hk_8⟩ := va_plg hg0.1 es_f_7
      refine va_calli (va_runV (b := g0) (As := [.int p0]) (rest := []) ⟨hx, hb, hml, hown, hts⟩ (q_X3_raise l dC dI TT H.size kI kJ kZ K L f_7 hPI g0 hg0 p0) (cwV 1 hts gX3_passes_X3_raise rfl rfl rfl (by decide +kernel) ⟨Nat.le_of_ble_eq_true rfl, Nat.le_of_ble_eq_true rfl⟩) ⟨pr_blind, va_recv hK hP (ci := 3) rfl hk_8, (pr_S (ws := va_pl L f_7) (wA := []) (tys := [(kI, .int), (kJ, .long), (kZ, .boolean)]) hP hK vd_nil hst hS (ro_free hS hA)).2⟩ rfl rfl hl.1 rfl (lv_room (Nat.le_of_ble_eq_true rfl)) dX3_passes_28 ⟨Nat.le_of_ble_eq_true rfl, Nat.le_of_ble_eq_true rfl⟩) hS (fun q _ h => (ro_free hS hA) q h) (ro_free hS hA) (fun r_9 u t H1 locs ht hvm hw hB hz1 hk1 hS => ?_)
      have hP := ro_keep hP hk1
      generalize H1 = H at hP hS ⊢
      exact W.iret (v := r_9) hx hb hr (fun t ht hW => ⟨⟨r_9, (), rfl, trivial, f_7, hPI, hfr, by rw [ht]; exact hP, hD⟩, hS.F ht⟩) hS.2.2 dX3_passes_31
    · refine lv_if_ne (tgt := 21) hx hb dX3_passes_16 (by decide) (fun c9 => absurd c9 (by decide)) (fun _ => ?_)
      refine lv_iconst (v := (-1)) hx hb dX3_passes_19 (by decide) ?_
      exact W.iret (v := (-1)) hx hb hr (fun t ht hW => ⟨⟨(-1), (), rfl, trivial, f, hPI, hfr, by rw [ht]; exact hP, hD⟩, hS.F ht⟩) hS.2.2 dX3_passes_20
  · refine lv_if_eq (tgt := 19) hx hb dX3_passes_4 (by decide) (fun _ => ?_) (fun c9 => absurd c9 (by decide))
    refine lv_iconst (v := (-1)) hx hb dX3_passes_19 (by decide) ?_
    exact W.iret (v := (-1)) hx hb hr (fun t ht hW => ⟨⟨(-1), (), rfl, trivial, f, hPI, hfr, by rw [ht]; exact hP, hD⟩, hS.F ht⟩) hS.2.2 dX3_passes_20
