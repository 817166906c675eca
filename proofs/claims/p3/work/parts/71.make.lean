set_option maxRecDepth 20000 in
theorem in_g_X3_make_X3 : ∀ w ∈ u_ws RX3 TX3 23, w ∈ wsX3_make := by decide +kernel
set_option maxRecDepth 100000 in
set_option maxHeartbeats 4000000 in
theorem g_X3_make (l : Launch) (dC : Nat → ClassId) (dI : Nat → Nat → Nat) (TT : Nat × Nat × Nat) (sz : Nat) (kI kJ kZ : ClassId) (K : Nat → Nat) (L : List Nat) (f : Nat → va_E) (hPI : PR kI kJ kZ K L f) (g0 : Nat) (hg0 : isr K L 10 g0) (p0 : Int32) (p1 : Int32) (p2 : Int32) (hU : UN K L) (nE nB : Nat) (hGX : GX kI kJ K L f nE nB) (hcap : 24 * (12 + nE) ≤ 6376 ∨ nB ≤ 6376) : Met l yX3_make wsX3_make ({ frames := 2, cells := 0, slots := 0, locals := 45 } : Room) (va_Pc [.ref g0, .int p0, .int p1, .int p2] (pr dC dI (va_pl L f) (va_pl L f) [(kI, .int), (kJ, .long), (kZ, .boolean)] sz TT)) (va_Qi (fun (r : Int32) (u : Unit) => r = sp_make p0 p1 p2) (fun (_ : Unit) t => ∃ f2 : Nat → va_E, PR kI kJ kZ K L f2 ∧ (FR (sK [11, 12, 13, 14, 16, 17]) K L f f2 ∧ GX kI kJ K L f2 nE (nB + 24)) ∧ va_P (dC, dI) vwCl (va_pl L f2) t.heap ∧ va_D (va_A (va_pl L f) sz) (va_pl L f2)) (va_A (va_pl L f) sz)) 0 0 (va_A (va_pl L f) sz) := by
  refine Met.ofW (cc := cX3_make) (maxL := 4) (ret := (some .int)) (by decide) rfl ?_
  intro p e s m args below meth c s₁ B hml hv
  obtain ⟨rfl, hsz, hP, hK, hD0, hst⟩ := hv
  have hx := B.exec
  have hb := B.bytes
  have hr := B.returns
  have hts := atoms_spec (ws := wsX3_make) B.pre
  have hown : s.vm.findClass RX3 = some m.cls := findClass_of_methodNamed B.named
  have hlocks := B.notSynchronized
  have iX3_ := in_g_X3_make_X3
  subst hsz
  have hD := hD0.self (sz := s.heap.size)
  generalize hAe : va_A (va_pl L f) s.heap.size = A at hD hst ⊢
  have hA : ∀ q : Nat, s.heap.size ≤ q → A q := fun q h => by rw [← hAe]; exact Or.inr h
  have hS : va_S A s.heap s.heap [] := va_S.rf
  have hl := lv_entry ([.ref g0, .int p0, .int p1, .int p2]) (n := 4) (Nat.le_of_ble_eq_true rfl)
  rw [lg_entry_eq]
  generalize (lg_sl ([.ref g0, .int p0, .int p1, .int p2]) ++ List.replicate (4 - (lg_sl ([.ref g0, .int p0, .int p1, .int p2])).length) Slot.unset).toArray = ls at hl ⊢
  have hl : lv_has ls 4 [(0, .ref g0), (1, .int p0), (2, .int p1), (3, .int p2)] := hl
  have km18_ : Int32.toInt (-18) = -18 := by decide
  have km1_ : Int32.toInt (-1) = -1 := by decide
  have k1_ : Int32.toInt 1 = 1 := by decide
  have k2_ : Int32.toInt 2 = 2 := by decide
  have kl0_ : Int64.toInt 0 = 0 := by decide
  have kl4_ : Int64.toInt 4 = 4 := by decide
  have kl1000_ : Int64.toInt 1000 = 1000 := by decide
  have hfr : FR (sK [11, 12, 13, 14, 16, 17]) K L f f := FR.rf
  obtain ⟨fS, fC, fF, hSV, hGI⟩ := id hGX
  obtain ⟨s1_1, s2_1, s3_1, s4_1, s5_1, s6_1, s7_1, pa_1, lm_1, s8_1, s9_1, s10_1, fm_1, s11_1, nm_1, s12_1, s13_1, s14_1, rm_1, s15_1, s16_1, s17_1, s18_1, e_1, fs1_1, fs2_1, fs3_1, fs4_1, fs5_1, fs6_1, fs7_1, flm_1, fs8_1, fs9_1, fs10_1, ffm_1, fs11_1, fnm_1, fs12_1, fs13_1, fs14_1, frm_1, fs15_1, fs16_1, fs17_1, fs18_1⟩ := hPI.a10 hg0
  obtain ⟨k_1, hk_1⟩ := va_plg hg0.1 e_1
  have eg_2 := hSV.1 s1_1 fs1_1
  have fg_2 := (hPI.a11 fs1_1).of eg_2
  have eg_3 := hSV.2.1 s2_1 fs2_1
  have fg_3 := (hPI.a12 fs2_1).of eg_3
  have eg_4 := hSV.2.2 s3_1 fs3_1
  have fg_4 := (hPI.a13 fs3_1).of eg_4
  have hrS := fg_2
  have hrF := fg_4
  refine lv_iload_n hx hb dX3_make_0 rfl (lv_at hl 1 rfl) ?_
  refine va_calli (va_runS (As := [.int p0]) (rest := []) ⟨hx, hb, hml, hown, hts⟩ (c_X3_isSlot l dC dI TT s.heap.size p0) (va_cwS 1 hts gX3_make_X3_isSlot rfl rfl rfl (by decide +kernel) ⟨Nat.le_of_ble_eq_true rfl, Nat.le_of_ble_eq_true rfl⟩) (pr_S (ws := []) (wA := []) (tys := []) vp_nil (hK.sub [] rfl) vd_nil hst hS (ro_free hS hA)) rfl rfl hl.1 rfl (lv_room (Nat.le_of_ble_eq_true rfl)) dX3_make_1 ⟨Nat.le_of_ble_eq_true rfl, Nat.le_of_ble_eq_true rfl⟩) hS (fun q _ h => (ro_free hS hA) q h) (ro_free hS hA) (fun r_5 u t H1 locs ht hvm hw hB hz1 hk1 hS => ?_)
  have hP := ro_keep hP hk1
  generalize H1 = H at hP hS ⊢
  rcases hw with ⟨rfl, hp_6⟩ | ⟨rfl, hp_6⟩
  · refine lv_if_eq (tgt := 19) hx hb dX3_make_4 (by decide) (fun c9 => absurd c9 (by decide)) (fun _ => ?_)
    refine lv_iload_n hx hb dX3_make_7 rfl (lv_at hl 2 rfl) ?_
    refine lv_i2l (v := Int32.toInt64 p1) hx hb dX3_make_8 rfl ?_
    have k_z_7 := Int32.toInt_toInt64 p1
    refine lv_lconst (v := 0) hx hb dX3_make_9 (by decide) ?_
    refine lv_ldc2 hx hb hown (hts (.constantLong RX3 87 (4)) (by decide +kernel)) dX3_make_10 ?_
    refine va_calli (va_runS (As := [.long (Int32.toInt64 p1), .long 0, .long 4]) (rest := []) ⟨hx, hb, hml, hown, hts⟩ (c_X3_in l dC dI TT H.size (Int32.toInt64 p1) 0 4) (va_cwS 3 hts gX3_make_X3_in rfl rfl rfl (by decide +kernel) ⟨Nat.le_of_ble_eq_true rfl, Nat.le_of_ble_eq_true rfl⟩) (pr_S (ws := []) (wA := []) (tys := []) vp_nil (hK.sub [] rfl) vd_nil hst hS (ro_free hS hA)) rfl rfl hl.1 rfl (lv_room (Nat.le_of_ble_eq_true rfl)) dX3_make_13 ⟨Nat.le_of_ble_eq_true rfl, Nat.le_of_ble_eq_true rfl⟩) hS (fun q _ h => (ro_free hS hA) q h) (ro_free hS hA) (fun r_8 u t H1 locs ht hvm hw hB hz1 hk1 hS => ?_)
    have hP := ro_keep hP hk1
    generalize H1 = H at hP hS ⊢
    rcases hw with ⟨rfl, hp_9⟩ | ⟨rfl, hp_9⟩
    · refine lv_if_ne (tgt := 21) hx hb dX3_make_16 (by decide) (fun _ => ?_) (fun c9 => absurd c9 (by decide))
      refine lv_iload_n hx hb dX3_make_21 rfl (lv_at hl 2 rfl) ?_
      refine lv_iconst (v := 2) hx hb dX3_make_22 (by decide) ?_
      refine lv_icmp_ne (tgt := 41) hx hb dX3_make_23 (by decide) (fun c_10 => ?_) (fun c_10 => ?_)
      · have c_10 := mt Int32.toInt_inj.mp c_10
        refine lv_aload_n hx hb dX3_make_41 rfl (lv_at hl 0 rfl) ?_
        have hFc := pl_free hD hS hA
        obtain ⟨k_12, hk_12⟩ := va_plg hg0.1 e_1
        refine va_callv (va_runV (b := g0) (As := []) (rest := []) ⟨hx, hb, hml, hown, hts⟩ (g_X3_look l dC dI TT H.size kI kJ kZ K L f hPI g0 hg0 hU fS fC fF hSV) (cwV 0 hts gX3_make_X3_lookWhatIsHeld rfl rfl rfl (by decide +kernel) ⟨Nat.le_of_ble_eq_true rfl, Nat.le_of_ble_eq_true rfl⟩) ⟨pr_blind, va_recv hK hP (ci := 3) rfl hk_12, (pr_S (ws := va_pl L f) (wA := va_pl L f) (tys := [(kI, .int), (kJ, .long), (kZ, .boolean)]) hP hK (hD.weaken (fun _ _ _ _ => trivial)) hst hS hFc).2⟩ rfl rfl hl.1 rfl (lv_room (Nat.le_of_ble_eq_true rfl)) dX3_make_42 ⟨Nat.le_of_ble_eq_true rfl, Nat.le_of_ble_eq_true rfl⟩) hS (fun q _ h => hFc q h) hFc (fun u t H1 locs ht hvm hw hB hz1 hk1 hS => ?_)
        obtain ⟨f_14, hPI, hrel, hP, hD9⟩ := hB
        rw [ht] at hP
        have hD := hD9.weaken (fun _ q _ h => hFc q.1 h)
        obtain ⟨hrelF, hrel⟩ := hrel
        have eq_15 := (hrelF g0 hg0.1 (by rw [hg0.2]; rfl)).trans e_1
        have eq_16 := (hrelF s1_1 fs1_1.1 (by rw [fs1_1.2]; rfl)).trans eg_2
        have eq_17 := (hrelF s2_1 fs2_1.1 (by rw [fs2_1.2]; rfl)).trans eg_3
        have eq_18 := (hrelF s3_1 fs3_1.1 (by rw [fs3_1.2]; rfl)).trans eg_4
        have hfr := FR.tr hfr hrelF (sK_sub (by decide))
        generalize H1 = H at hP hS ⊢
        obtain ⟨zM, hZV, hMK⟩ := hrel
        have hSV := SV.mk hU fs1_1 fs2_1 fs3_1 eq_16 eq_17 eq_18
        have eg_20 := hZV s6_1 fs6_1
        have fg_20 := (hPI.a16 fs6_1).of eg_20
        refine lv_aload_n hx hb dX3_make_45 rfl (lv_at hl 0 rfl) ?_
        obtain ⟨k_21, hk_21⟩ := va_plg hg0.1 eq_15
        refine va_get (D := (dC, dI)) (ci := 3) (v := .ref s1_1) (C := RX3) (T := TX3) (N := 23) hx hb hts iX3_ hown hK hP k_21 hk_21 rfl 0 (by decide) (hts (.fieldLink RX3 7 "FieldLeavesModel" "slot" "[I") (by decide +kernel)) (fun _ h9 => h9) rfl dX3_make_46 ?_
        refine lv_iload_n hx hb dX3_make_49 rfl (lv_at hl 1 rfl) ?_
        refine lv_aload_n hx hb dX3_make_50 rfl (lv_at hl 0 rfl) ?_
        refine lv_iload_n hx hb dX3_make_51 rfl (lv_at hl 2 rfl) ?_
        refine lv_iload_n hx hb dX3_make_52 rfl (lv_at hl 3 rfl) ?_
        have hcz := look_room hGI hMK hcap
        have hFc := pl_free hD hS hA
        obtain ⟨k_22, hk_22⟩ := va_plg hg0.1 eq_15
        refine va_calli (va_runV (b := g0) (As := [.int p1, .int p2]) (rest := [.int p0, .ref s1_1]) ⟨hx, hb, hml, hown, hts⟩ (g_X3_born l dC dI TT H.size kI kJ kZ K L f_14 hPI g0 hg0 p1 p2 hU fS fC fF hSV zM hZV (by omega)) (cwV 2 hts gX3_make_X3_born rfl rfl rfl (by decide +kernel) ⟨Nat.le_of_ble_eq_true rfl, Nat.le_of_ble_eq_true rfl⟩) ⟨pr_blind, va_recv hK hP (ci := 3) rfl hk_22, (pr_S (ws := va_pl L f_14) (wA := va_pl L f_14) (tys := [(kI, .int), (kJ, .long), (kZ, .boolean)]) hP hK (hD.weaken (fun _ _ _ _ => trivial)) hst hS hFc).2⟩ rfl rfl hl.1 rfl (lv_room (Nat.le_of_ble_eq_true rfl)) dX3_make_53 ⟨Nat.le_of_ble_eq_true rfl, Nat.le_of_ble_eq_true rfl⟩) hS (fun q _ h => hFc q h) hFc (fun r_23 u t H1 locs ht hvm hw hB hz1 hk1 hS => ?_)
        obtain ⟨f_24, hPI, hrel, hP, hD9⟩ := hB
        rw [ht] at hP
        have hD := hD9.weaken (fun _ q _ h => hFc q.1 h)
        obtain ⟨hrelF, hrel⟩ := hrel
        have eq_25 := (hrelF g0 hg0.1 (by rw [hg0.2]; rfl)).trans eq_15
        have eq_26 := (hrelF s1_1 fs1_1.1 (by rw [fs1_1.2]; rfl)).trans eq_16
        have hfr := FR.tr hfr hrelF (sK_sub (by decide))
        generalize H1 = H at hP hS ⊢
        obtain ⟨oB, fG, hLF, hZV, hSV, hBG⟩ := hrel
        obtain ⟨hLF2, hr2⟩ := hw
        obtain rfl : Int32.toNatClampNeg r_23 = oB := hLF2.one hLF
        have eg_27 := hSV.1 s1_1 fs1_1
        have fg_27 := (hPI.a11 fs1_1).of eg_27
        have eg_28 := hSV.2.1 s2_1 fs2_1
        have fg_28 := (hPI.a12 fs2_1).of eg_28
        have eg_29 := hSV.2.2 s3_1 fs3_1
        have fg_29 := (hPI.a13 fs3_1).of eg_29
        obtain ⟨k_30, hk_30⟩ := va_plg fs1_1.1 eg_27
        have h_30 : vp_in p0 12 := (vp_in_iff.mpr (by constructor <;> omega))
        have fw_30 := updS (P := fun v => -1 ≤ v.toInt ∧ v.toInt < 6400) (k := Int32.toNatClampNeg p0) (v := r_23) fg_27 (by omega)
        have hD9 := hD
        refine va_iast hx hb hK hP hD hS k_30 0 hk_30 rfl h_30 dX3_make_56 (fun H locs hP hD hS => ?_)
        have hP : va_P (dC, dI) vwCl (va_pl L (va_up f_24 s1_1 (.inl (kI, 12, .inl (upd fS (Int32.toNatClampNeg p0) r_23))))) H := by rw [← va_pls hD9 fs1_1.1 hk_30 _]; exact hP
        have hD : va_D A (va_pl L (va_up f_24 s1_1 (.inl (kI, 12, .inl (upd fS (Int32.toNatClampNeg p0) r_23))))) := by rw [← va_pls hD9 fs1_1.1 hk_30 _]; exact hD
        have hPI := hPI.put (e := .inl (kI, 12, .inl (upd fS (Int32.toNatClampNeg p0) r_23))) fs1_1 ⟨_, rfl, fw_30⟩
        have es_f_31 : va_up f_24 s1_1 (.inl (kI, 12, .inl (upd fS (Int32.toNatClampNeg p0) r_23))) s1_1 = .inl (kI, 12, .inl (upd fS (Int32.toNatClampNeg p0) r_23)) := va_up_self _ _ _
        have eq_32 := (va_up_ne f_24 (.inl (kI, 12, .inl (upd fS (Int32.toNatClampNeg p0) r_23))) (isr_ne hg0 fs1_1 (by decide))).trans eq_25
        have eq_33 := (va_up_ne f_24 (.inl (kI, 12, .inl (upd fS (Int32.toNatClampNeg p0) r_23))) (isr_ne fs2_1 fs1_1 (by decide))).trans eg_28
        have eq_34 := (va_up_ne f_24 (.inl (kI, 12, .inl (upd fS (Int32.toNatClampNeg p0) r_23))) (isr_ne fs3_1 fs1_1 (by decide))).trans eg_29
        have hfr := fr_up (S := (sK [11, 12, 13, 14, 16, 17])) (e := .inl (kI, 12, .inl (upd fS (Int32.toNatClampNeg p0) r_23))) hfr fs1_1 (by decide)
        generalize va_up f_24 s1_1 (.inl (kI, 12, .inl (upd fS (Int32.toNatClampNeg p0) r_23))) = f_31 at hP hD hPI es_f_31 eq_32 eq_33 eq_34 hfr
        refine lv_iconst (v := 1) hx hb dX3_make_57 (by decide) ?_
        exact W.iret (v := 1) hx hb hr (fun t ht hW => ⟨⟨1, (), rfl, (show 1 = sp_make p0 p1 p2 from by unfold sp_make; (repeat' split) <;> first | rfl | (exfalso; omega)), f_31, hPI, ⟨hfr, _, _, _, SV.mk hU fs1_1 fs2_1 fs3_1 es_f_31 eq_33 eq_34, make_gi hrS hrF hGI hMK hLF hBG rfl⟩, by rw [ht]; exact hP, hD⟩, hS.F ht⟩) hS.2.2 dX3_make_58
      · have c_10 := congrArg Int32.toInt c_10
        refine lv_iload_n hx hb dX3_make_26 rfl (lv_at hl 3 rfl) ?_
        refine lv_i2l (v := Int32.toInt64 p2) hx hb dX3_make_27 rfl ?_
        have k_z_35 := Int32.toInt_toInt64 p2
        refine lv_lconst (v := 0) hx hb dX3_make_28 (by decide) ?_
        refine lv_ldc2 hx hb hown (hts (.constantLong RX3 89 (1000)) (by decide +kernel)) dX3_make_29 ?_
        refine va_calli (va_runS (As := [.long (Int32.toInt64 p2), .long 0, .long 1000]) (rest := []) ⟨hx, hb, hml, hown, hts⟩ (c_X3_in l dC dI TT H.size (Int32.toInt64 p2) 0 1000) (va_cwS 3 hts gX3_make_X3_in rfl rfl rfl (by decide +kernel) ⟨Nat.le_of_ble_eq_true rfl, Nat.le_of_ble_eq_true rfl⟩) (pr_S (ws := []) (wA := []) (tys := []) vp_nil (hK.sub [] rfl) vd_nil hst hS (ro_free hS hA)) rfl rfl hl.1 rfl (lv_room (Nat.le_of_ble_eq_true rfl)) dX3_make_32 ⟨Nat.le_of_ble_eq_true rfl, Nat.le_of_ble_eq_true rfl⟩) hS (fun q _ h => (ro_free hS hA) q h) (ro_free hS hA) (fun r_36 u t H1 locs ht hvm hw hB hz1 hk1 hS => ?_)
        have hP := ro_keep hP hk1
        generalize H1 = H at hP hS ⊢
        rcases hw with ⟨rfl, hp_37⟩ | ⟨rfl, hp_37⟩
        · refine lv_if_ne (tgt := 41) hx hb dX3_make_35 (by decide) (fun _ => ?_) (fun c9 => absurd c9 (by decide))
          refine lv_aload_n hx hb dX3_make_41 rfl (lv_at hl 0 rfl) ?_
          have hFc := pl_free hD hS hA
          obtain ⟨k_39, hk_39⟩ := va_plg hg0.1 e_1
          refine va_callv (va_runV (b := g0) (As := []) (rest := []) ⟨hx, hb, hml, hown, hts⟩ (g_X3_look l dC dI TT H.size kI kJ kZ K L f hPI g0 hg0 hU fS fC fF hSV) (cwV 0 hts gX3_make_X3_lookWhatIsHeld rfl rfl rfl (by decide +kernel) ⟨Nat.le_of_ble_eq_true rfl, Nat.le_of_ble_eq_true rfl⟩) ⟨pr_blind, va_recv hK hP (ci := 3) rfl hk_39, (pr_S (ws := va_pl L f) (wA := va_pl L f) (tys := [(kI, .int), (kJ, .long), (kZ, .boolean)]) hP hK (hD.weaken (fun _ _ _ _ => trivial)) hst hS hFc).2⟩ rfl rfl hl.1 rfl (lv_room (Nat.le_of_ble_eq_true rfl)) dX3_make_42 ⟨Nat.le_of_ble_eq_true rfl, Nat.le_of_ble_eq_true rfl⟩) hS (fun q _ h => hFc q h) hFc (fun u t H1 locs ht hvm hw hB hz1 hk1 hS => ?_)
          obtain ⟨f_41, hPI, hrel, hP, hD9⟩ := hB
          rw [ht] at hP
          have hD := hD9.weaken (fun _ q _ h => hFc q.1 h)
          obtain ⟨hrelF, hrel⟩ := hrel
          have eq_42 := (hrelF g0 hg0.1 (by rw [hg0.2]; rfl)).trans e_1
          have eq_43 := (hrelF s1_1 fs1_1.1 (by rw [fs1_1.2]; rfl)).trans eg_2
          have eq_44 := (hrelF s2_1 fs2_1.1 (by rw [fs2_1.2]; rfl)).trans eg_3
          have eq_45 := (hrelF s3_1 fs3_1.1 (by rw [fs3_1.2]; rfl)).trans eg_4
          have hfr := FR.tr hfr hrelF (sK_sub (by decide))
          generalize H1 = H at hP hS ⊢
          obtain ⟨zM, hZV, hMK⟩ := hrel
          have hSV := SV.mk hU fs1_1 fs2_1 fs3_1 eq_43 eq_44 eq_45
          have eg_47 := hZV s6_1 fs6_1
          have fg_47 := (hPI.a16 fs6_1).of eg_47
          refine lv_aload_n hx hb dX3_make_45 rfl (lv_at hl 0 rfl) ?_
          obtain ⟨k_48, hk_48⟩ := va_plg hg0.1 eq_42
          refine va_get (D := (dC, dI)) (ci := 3) (v := .ref s1_1) (C := RX3) (T := TX3) (N := 23) hx hb hts iX3_ hown hK hP k_48 hk_48 rfl 0 (by decide) (hts (.fieldLink RX3 7 "FieldLeavesModel" "slot" "[I") (by decide +kernel)) (fun _ h9 => h9) rfl dX3_make_46 ?_
          refine lv_iload_n hx hb dX3_make_49 rfl (lv_at hl 1 rfl) ?_
          refine lv_aload_n hx hb dX3_make_50 rfl (lv_at hl 0 rfl) ?_
          refine lv_iload_n hx hb dX3_make_51 rfl (lv_at hl 2 rfl) ?_
          refine lv_iload_n hx hb dX3_make_52 rfl (lv_at hl 3 rfl) ?_
          have hcz := look_room hGI hMK hcap
          have hFc := pl_free hD hS hA
          obtain ⟨k_49, hk_49⟩ := va_plg hg0.1 eq_42
          refine va_calli (va_runV (b := g0) (As := [.int p1, .int p2]) (rest := [.int p0, .ref s1_1]) ⟨hx, hb, hml, hown, hts⟩ (g_X3_born l dC dI TT H.size kI kJ kZ K L f_41 hPI g0 hg0 p1 p2 hU fS fC fF hSV zM hZV (by omega)) (cwV 2 hts gX3_make_X3_born rfl rfl rfl (by decide +kernel) ⟨Nat.le_of_ble_eq_true rfl, Nat.le_of_ble_eq_true rfl⟩) ⟨pr_blind, va_recv hK hP (ci := 3) rfl hk_49, (pr_S (ws := va_pl L f_41) (wA := va_pl L f_41) (tys := [(kI, .int), (kJ, .long), (kZ, .boolean)]) hP hK (hD.weaken (fun _ _ _ _ => trivial)) hst hS hFc).2⟩ rfl rfl hl.1 rfl (lv_room (Nat.le_of_ble_eq_true rfl)) dX3_make_53 ⟨Nat.le_of_ble_eq_true rfl, Nat.le_of_ble_eq_true rfl⟩) hS (fun q _ h => hFc q h) hFc (fun r_50 u t H1 locs ht hvm hw hB hz1 hk1 hS => ?_)
          obtain ⟨f_51, hPI, hrel, hP, hD9⟩ := hB
          rw [ht] at hP
          have hD := hD9.weaken (fun _ q _ h => hFc q.1 h)
          obtain ⟨hrelF, hrel⟩ := hrel
          have eq_52 := (hrelF g0 hg0.1 (by rw [hg0.2]; rfl)).trans eq_42
          have eq_53 := (hrelF s1_1 fs1_1.1 (by rw [fs1_1.2]; rfl)).trans eq_43
          have hfr := FR.tr hfr hrelF (sK_sub (by decide))
          generalize H1 = H at hP hS ⊢
          obtain ⟨oB, fG, hLF, hZV, hSV, hBG⟩ := hrel
          obtain ⟨hLF2, hr2⟩ := hw
          obtain rfl : Int32.toNatClampNeg r_50 = oB := hLF2.one hLF
          have eg_54 := hSV.1 s1_1 fs1_1
          have fg_54 := (hPI.a11 fs1_1).of eg_54
          have eg_55 := hSV.2.1 s2_1 fs2_1
          have fg_55 := (hPI.a12 fs2_1).of eg_55
          have eg_56 := hSV.2.2 s3_1 fs3_1
          have fg_56 := (hPI.a13 fs3_1).of eg_56
          obtain ⟨k_57, hk_57⟩ := va_plg fs1_1.1 eg_54
          have h_57 : vp_in p0 12 := (vp_in_iff.mpr (by constructor <;> omega))
          have fw_57 := updS (P := fun v => -1 ≤ v.toInt ∧ v.toInt < 6400) (k := Int32.toNatClampNeg p0) (v := r_50) fg_54 (by omega)
          have hD9 := hD
          refine va_iast hx hb hK hP hD hS k_57 0 hk_57 rfl h_57 dX3_make_56 (fun H locs hP hD hS => ?_)
          have hP : va_P (dC, dI) vwCl (va_pl L (va_up f_51 s1_1 (.inl (kI, 12, .inl (upd fS (Int32.toNatClampNeg p0) r_50))))) H := by rw [← va_pls hD9 fs1_1.1 hk_57 _]; exact hP
          have hD : va_D A (va_pl L (va_up f_51 s1_1 (.inl (kI, 12, .inl (upd fS (Int32.toNatClampNeg p0) r_50))))) := by rw [← va_pls hD9 fs1_1.1 hk_57 _]; exact hD
          have hPI := hPI.put (e := .inl (kI, 12, .inl (upd fS (Int32.toNatClampNeg p0) r_50))) fs1_1 ⟨_, rfl, fw_57⟩
          have es_f_58 : va_up f_51 s1_1 (.inl (kI, 12, .inl (upd fS (Int32.toNatClampNeg p0) r_50))) s1_1 = .inl (kI, 12, .inl (upd fS (Int32.toNatClampNeg p0) r_50)) := va_up_self _ _ _
          have eq_59 := (va_up_ne f_51 (.inl (kI, 12, .inl (upd fS (Int32.toNatClampNeg p0) r_50))) (isr_ne hg0 fs1_1 (by decide))).trans eq_52
          have eq_60 := (va_up_ne f_51 (.inl (kI, 12, .inl (upd fS (Int32.toNatClampNeg p0) r_50))) (isr_ne fs2_1 fs1_1 (by decide))).trans eg_55
          have eq_61 := (va_up_ne f_51 (.inl (kI, 12, .inl (upd fS (Int32.toNatClampNeg p0) r_50))) (isr_ne fs3_1 fs1_1 (by decide))).trans eg_56
          have hfr := fr_up (S := (sK [11, 12, 13, 14, 16, 17])) (e := .inl (kI, 12, .inl (upd fS (Int32.toNatClampNeg p0) r_50))) hfr fs1_1 (by decide)
          generalize va_up f_51 s1_1 (.inl (kI, 12, .inl (upd fS (Int32.toNatClampNeg p0) r_50))) = f_58 at hP hD hPI es_f_58 eq_59 eq_60 eq_61 hfr
          refine lv_iconst (v := 1) hx hb dX3_make_57 (by decide) ?_
          exact W.iret (v := 1) hx hb hr (fun t ht hW => ⟨⟨1, (), rfl, (show 1 = sp_make p0 p1 p2 from by unfold sp_make; (repeat' split) <;> first | rfl | (exfalso; omega)), f_58, hPI, ⟨hfr, _, _, _, SV.mk hU fs1_1 fs2_1 fs3_1 es_f_58 eq_60 eq_61, make_gi hrS hrF hGI hMK hLF hBG rfl⟩, by rw [ht]; exact hP, hD⟩, hS.F ht⟩) hS.2.2 dX3_make_58
        · refine lv_if_ne (tgt := 41) hx hb dX3_make_35 (by decide) (fun c9 => absurd c9 (by decide)) (fun _ => ?_)
          refine lv_bipush (v := (-18)) hx hb dX3_make_38 (by decide) ?_
          exact W.iret (v := (-18)) hx hb hr (fun t ht hW => ⟨⟨(-18), (), rfl, (show (-18) = sp_make p0 p1 p2 from by unfold sp_make; (repeat' split) <;> first | rfl | (exfalso; omega)), f, hPI, ⟨hfr, GX.mono hGX (by omega)⟩, by rw [ht]; exact hP, hD⟩, hS.F ht⟩) hS.2.2 dX3_make_40
    · refine lv_if_ne (tgt := 21) hx hb dX3_make_16 (by decide) (fun c9 => absurd c9 (by decide)) (fun _ => ?_)
      refine lv_iconst (v := (-1)) hx hb dX3_make_19 (by decide) ?_
      exact W.iret (v := (-1)) hx hb hr (fun t ht hW => ⟨⟨(-1), (), rfl, (show (-1) = sp_make p0 p1 p2 from by unfold sp_make; (repeat' split) <;> first | rfl | (exfalso; omega)), f, hPI, ⟨hfr, GX.mono hGX (by omega)⟩, by rw [ht]; exact hP, hD⟩, hS.F ht⟩) hS.2.2 dX3_make_20
  · refine lv_if_eq (tgt := 19) hx hb dX3_make_4 (by decide) (fun _ => ?_) (fun c9 => absurd c9 (by decide))
    refine lv_iconst (v := (-1)) hx hb dX3_make_19 (by decide) ?_
    exact W.iret (v := (-1)) hx hb hr (fun t ht hW => ⟨⟨(-1), (), rfl, (show (-1) = sp_make p0 p1 p2 from by unfold sp_make; (repeat' split) <;> first | rfl | (exfalso; omega)), f, hPI, ⟨hfr, GX.mono hGX (by omega)⟩, by rw [ht]; exact hP, hD⟩, hS.F ht⟩) hS.2.2 dX3_make_20
