set_option maxRecDepth 20000 in
theorem in_v_X3_make_X3 : ∀ w ∈ u_ws RX3 TX3 23, w ∈ wsX3_make := by decide +kernel
set_option maxRecDepth 100000 in
set_option maxHeartbeats 4000000 in
theorem v_X3_make (l : Launch) (dC : Nat → ClassId) (dI : Nat → Nat → Nat) (TT : Nat × Nat × Nat) (sz : Nat) (kI kJ kZ : ClassId) (K : Nat → Nat) (L : List Nat) (f : Nat → va_E) (hPI : PR kI kJ kZ K L f) (g0 : Nat) (hg0 : isr K L 10 g0) (p0 : Int32) (p1 : Int32) (p2 : Int32) (hU : UN K L) (fS fC : Nat → Int32) (fF : Nat → Int64) (fR fW lo ld : Nat → Int32) (lv : Nat → Int64) (lm pa : Int32) (hRV : RV kI kJ K L f g0 fS fC fF fR fW lo ld lv lm pa) (nE nB : Nat) (hGI : GI fS fC fF nE nB) (hcap : 24 * (12 + nE) ≤ 6376 ∨ nB ≤ 6376) : Met l yX3_make wsX3_make ({ frames := 2, cells := 0, slots := 0, locals := 45 } : Room) (va_Pc [.ref g0, .int p0, .int p1, .int p2] (pr dC dI (va_pl L f) (va_pl L f) [(kI, .int), (kJ, .long), (kZ, .boolean)] sz TT)) (va_Qi (fun (r : Int32) (u : Unit) => r = sp_make p0 p1 p2) (fun (_ : Unit) t => ∃ f2 : Nat → va_E, PR kI kJ kZ K L f2 ∧ (FR (sK [11, 12, 13, 14, 16, 17]) K L f f2 ∧ ∃ (fS2 fC2 : Nat → Int32) (fF2 : Nat → Int64) (fR2 : Nat → Int32), rv_make fS fC fF fR p0 p1 p2 fS2 fC2 fF2 fR2 ∧ RV kI kJ K L f2 g0 fS2 fC2 fF2 fR2 fW lo ld lv lm pa) ∧ va_P (dC, dI) vwCl (va_pl L f2) t.heap ∧ va_D (va_A (va_pl L f) sz) (va_pl L f2)) (va_A (va_pl L f) sz)) 0 0 (va_A (va_pl L f) sz) := by
  refine Met.ofW (cc := cX3_make) (maxL := 4) (ret := (some .int)) (by decide) rfl ?_
  intro p e s m args below meth c s₁ B hml hv
  obtain ⟨rfl, hsz, hP, hK, hD0, hst⟩ := hv
  have hx := B.exec
  have hb := B.bytes
  have hr := B.returns
  have hts := atoms_spec (ws := wsX3_make) B.pre
  have hown : s.vm.findClass RX3 = some m.cls := findClass_of_methodNamed B.named
  have hlocks := B.notSynchronized
  have iX3_ := in_v_X3_make_X3
  subst hsz
  have hD := hD0.self (sz := s.heap.size)
  generalize hAe : va_A (va_pl L f) s.heap.size = A at hD hst ⊢
  have hA : ∀ q : Nat, s.heap.size ≤ q → A q := fun q h => by rw [← hAe]; exact Or.inr h
  have hS : va_S A s.heap s.heap [] := va_S.rf
  have hl := lv_entry ([.ref g0, .int p0, .int p1, .int p2]) (n := 4) (Nat.le_of_ble_eq_true rfl)
  rw [lg_entry_eq]
  generalize (lg_sl ([.ref g0, .int p0, .int p1, .int p2]) ++ List.replicate (4 - (lg_sl ([.ref g0, .int p0, .int p1, .int p2])).length) Slot.unset).toArray = ls at hl ⊢
  have hl : lv_has ls 4 [(0, .ref g0), (1, .int p0), (2, .int p1), (3, .int p2)] := hl
  have km18_ : Int32.toInt (-18) = -18 := by decide
  have km1_ : Int32.toInt (-1) = -1 := by decide
  have k1_ : Int32.toInt 1 = 1 := by decide
  have k2_ : Int32.toInt 2 = 2 := by decide
  have kl0_ : Int64.toInt 0 = 0 := by decide
  have kl4_ : Int64.toInt 4 = 4 := by decide
  have kl1000_ : Int64.toInt 1000 = 1000 := by decide
  have hfr : FR (sK [11, 12, 13, 14, 16, 17]) K L f f := FR.rf
  (refine hPI.a10E hg0 ?_; intro s1_1 s2_1 s3_1 s4_1 s5_1 s6_1 s7_1 pa_1 lm_1 s8_1 s9_1 s10_1 fm_1 s11_1 nm_1 s12_1 s13_1 s14_1 rm_1 s15_1 s16_1 s17_1 s18_1 e_1 fs1_1 fs2_1 fs3_1 fs4_1 fs5_1 fs6_1 fs7_1 flm_1 fs8_1 fs9_1 fs10_1 ffm_1 fs11_1 fnm_1 fs12_1 fs13_1 fs14_1 frm_1 fs15_1 fs16_1 fs17_1 fs18_1)
  obtain ⟨k_1, hk_1⟩ := va_plg hg0.1 e_1
  have eg11 := hRV.1.1 s1_1 fs1_1
  have fg11 := (hPI.a11 fs1_1).of eg11
  have eg12 := hRV.1.2.1 s2_1 fs2_1
  have fg12 := (hPI.a12 fs2_1).of eg12
  have eg13 := hRV.1.2.2 s3_1 fs3_1
  have fg13 := (hPI.a13 fs3_1).of eg13
  have eg14 := hRV.2.1.1 s4_1 fs4_1
  have fg14 := (hPI.a14 fs4_1).of eg14
  have eg15 := hRV.2.1.2 s5_1 fs5_1
  have fg15 := (hPI.a15 fs5_1).of eg15
  have eg18 := hRV.2.2.1.1 s8_1 fs8_1
  have fg18 := (hPI.a18 fs8_1).of eg18
  have eg19 := hRV.2.2.1.2.1 s9_1 fs9_1
  have fg19 := (hPI.a19 fs9_1).of eg19
  have eg20 := hRV.2.2.1.2.2 s10_1 fs10_1
  have fg20 := (hPI.a20 fs10_1).of eg20
  obtain rfl : lm_1 = lm := (show cI (f g0) 8 = _ from by rw [e_1]; rfl).symm.trans hRV.2.2.2.1
  obtain rfl : pa_1 = pa := (show cI (f g0) 7 = _ from by rw [e_1]; rfl).symm.trans hRV.2.2.2.2
  refine lv_iload_n hx hb dX3_make_0 rfl (lv_at hl 1 rfl) ?_
  refine va_calli (va_runS (As := [.int p0]) (rest := []) ⟨hx, hb, hml, hown, hts⟩ (c_X3_isSlot l dC dI TT s.heap.size p0) (va_cwS 1 hts gX3_make_X3_isSlot rfl rfl rfl (by decide +kernel) ⟨Nat.le_of_ble_eq_true rfl, Nat.le_of_ble_eq_true rfl⟩) (pr_S (ws := []) (wA := []) (tys := []) vp_nil (hK.sub [] rfl) vd_nil hst hS (ro_free hS hA)) rfl rfl hl.1 rfl (lv_room (Nat.le_of_ble_eq_true rfl)) dX3_make_1 ⟨Nat.le_of_ble_eq_true rfl, Nat.le_of_ble_eq_true rfl⟩) hS (fun q _ h => (ro_free hS hA) q h) (ro_free hS hA) (fun r_2 u t H1 locs ht hvm hw hB hz1 hk1 hS => ?_)
  have hP := ro_keep hP hk1
  generalize H1 = H at hP hS ⊢
  rcases hw with ⟨rfl, hp_3⟩ | ⟨rfl, hp_3⟩
  · refine lv_if_eq (tgt := 19) hx hb dX3_make_4 (by decide) (fun c9 => absurd c9 (by decide)) (fun _ => ?_)
    refine lv_iload_n hx hb dX3_make_7 rfl (lv_at hl 2 rfl) ?_
    refine lv_i2l (v := Int32.toInt64 p1) hx hb dX3_make_8 rfl ?_
    have k_z_4 := Int32.toInt_toInt64 p1
    refine lv_lconst (v := 0) hx hb dX3_make_9 (by decide) ?_
    refine lv_ldc2 hx hb hown (hts (.constantLong RX3 87 (4)) (by decide +kernel)) dX3_make_10 ?_
    refine va_calli (va_runS (As := [.long (Int32.toInt64 p1), .long 0, .long 4]) (rest := []) ⟨hx, hb, hml, hown, hts⟩ (c_X3_in l dC dI TT H.size (Int32.toInt64 p1) 0 4) (va_cwS 3 hts gX3_make_X3_in rfl rfl rfl (by decide +kernel) ⟨Nat.le_of_ble_eq_true rfl, Nat.le_of_ble_eq_true rfl⟩) (pr_S (ws := []) (wA := []) (tys := []) vp_nil (hK.sub [] rfl) vd_nil hst hS (ro_free hS hA)) rfl rfl hl.1 rfl (lv_room (Nat.le_of_ble_eq_true rfl)) dX3_make_13 ⟨Nat.le_of_ble_eq_true rfl, Nat.le_of_ble_eq_true rfl⟩) hS (fun q _ h => (ro_free hS hA) q h) (ro_free hS hA) (fun r_5 u t H1 locs ht hvm hw hB hz1 hk1 hS => ?_)
    have hP := ro_keep hP hk1
    generalize H1 = H at hP hS ⊢
    rcases hw with ⟨rfl, hp_6⟩ | ⟨rfl, hp_6⟩
    · refine lv_if_ne (tgt := 21) hx hb dX3_make_16 (by decide) (fun _ => ?_) (fun c9 => absurd c9 (by decide))
      refine lv_iload_n hx hb dX3_make_21 rfl (lv_at hl 2 rfl) ?_
      refine lv_iconst (v := 2) hx hb dX3_make_22 (by decide) ?_
      refine lv_icmp_ne (tgt := 41) hx hb dX3_make_23 (by decide) (fun c_7 => ?_) (fun c_7 => ?_)
      · have c_7 := mt Int32.toInt_inj.mp c_7
        refine lv_aload_n hx hb dX3_make_41 rfl (lv_at hl 0 rfl) ?_
        have hFc := pl_free hD hS hA
        obtain ⟨k_8, hk_8⟩ := va_plg hg0.1 e_1
        refine va_callv (va_runV (b := g0) (As := []) (rest := []) ⟨hx, hb, hml, hown, hts⟩ (g_X3_look l dC dI TT H.size kI kJ kZ K L f hPI g0 hg0 hU fS fC fF hRV.1) (cwV 0 hts gX3_make_X3_lookWhatIsHeld rfl rfl rfl (by decide +kernel) ⟨Nat.le_of_ble_eq_true rfl, Nat.le_of_ble_eq_true rfl⟩) ⟨pr_blind, va_recv hK hP (ci := 3) rfl hk_8, (pr_S (ws := va_pl L f) (wA := va_pl L f) (tys := [(kI, .int), (kJ, .long), (kZ, .boolean)]) hP hK (hD.weaken (fun _ _ _ _ => trivial)) hst hS hFc).2⟩ rfl rfl hl.1 rfl (lv_room (Nat.le_of_ble_eq_true rfl)) dX3_make_42 ⟨Nat.le_of_ble_eq_true rfl, Nat.le_of_ble_eq_true rfl⟩) hS (fun q _ h => hFc q h) hFc (fun u t H1 locs ht hvm hw hB hz1 hk1 hS => ?_)
        obtain ⟨f_10, hPI, hrel, hP, hD9⟩ := hB
        rw [ht] at hP
        have hD := hD9.weaken (fun _ q _ h => hFc q.1 h)
        obtain ⟨hrelF, hrel⟩ := hrel
        have eq_11 := (hrelF g0 hg0.1 (by rw [hg0.2]; rfl)).trans e_1
        have eq_12 := (hrelF s1_1 fs1_1.1 (by rw [fs1_1.2]; rfl)).trans eg11
        have eq_13 := (hrelF s2_1 fs2_1.1 (by rw [fs2_1.2]; rfl)).trans eg12
        have eq_14 := (hrelF s3_1 fs3_1.1 (by rw [fs3_1.2]; rfl)).trans eg13
        have eq_15 := (hrelF s4_1 fs4_1.1 (by rw [fs4_1.2]; rfl)).trans eg14
        have eq_16 := (hrelF s5_1 fs5_1.1 (by rw [fs5_1.2]; rfl)).trans eg15
        have eq_17 := (hrelF s8_1 fs8_1.1 (by rw [fs8_1.2]; rfl)).trans eg18
        have eq_18 := (hrelF s9_1 fs9_1.1 (by rw [fs9_1.2]; rfl)).trans eg19
        have eq_19 := (hrelF s10_1 fs10_1.1 (by rw [fs10_1.2]; rfl)).trans eg20
        have hfr := FR.tr hfr hrelF (sK_sub (by decide))
        generalize H1 = H at hP hS ⊢
        obtain ⟨zM, hZV, hMK⟩ := hrel
        have hRV9 : RV kI kJ K L f_10 g0 fS fC fF fR fW lo ld lv lm_1 pa_1 := ⟨SV.mk hU fs1_1 fs2_1 fs3_1 eq_12 eq_13 eq_14, ⟨un_row hU fs4_1 eq_15, un_row hU fs5_1 eq_16⟩, ⟨un_row hU fs8_1 eq_17, un_row hU fs9_1 eq_18, un_row hU fs10_1 eq_19⟩, (by rw [eq_11]; rfl), (by rw [eq_11]; rfl)⟩
        have hcz := look_room hGI hMK hcap
        have eg_20 := hZV s6_1 fs6_1
        have fg_20 := (hPI.a16 fs6_1).of eg_20
        refine lv_aload_n hx hb dX3_make_45 rfl (lv_at hl 0 rfl) ?_
        obtain ⟨k_21, hk_21⟩ := va_plg hg0.1 eq_11
        refine va_get (D := (dC, dI)) (ci := 3) (v := .ref s1_1) (C := RX3) (T := TX3) (N := 23) hx hb hts iX3_ hown hK hP k_21 hk_21 rfl 0 (by decide) (hts (.fieldLink RX3 7 "FieldLeavesModel" "slot" "[I") (by decide +kernel)) (fun _ h9 => h9) rfl dX3_make_46 ?_
        refine lv_iload_n hx hb dX3_make_49 rfl (lv_at hl 1 rfl) ?_
        refine lv_aload_n hx hb dX3_make_50 rfl (lv_at hl 0 rfl) ?_
        refine lv_iload_n hx hb dX3_make_51 rfl (lv_at hl 2 rfl) ?_
        refine lv_iload_n hx hb dX3_make_52 rfl (lv_at hl 3 rfl) ?_
        have hFc := pl_free hD hS hA
        obtain ⟨k_22, hk_22⟩ := va_plg hg0.1 eq_11
        refine va_calli (va_runV (b := g0) (As := [.int p1, .int p2]) (rest := [.int p0, .ref s1_1]) ⟨hx, hb, hml, hown, hts⟩ (v_X3_born l dC dI TT H.size kI kJ kZ K L f_10 hPI g0 hg0 p1 p2 hU fS fC fF fR fW lo ld lv lm_1 pa_1 hRV9 zM hZV (by omega)) (cwV 2 hts gX3_make_X3_born rfl rfl rfl (by decide +kernel) ⟨Nat.le_of_ble_eq_true rfl, Nat.le_of_ble_eq_true rfl⟩) ⟨pr_blind, va_recv hK hP (ci := 3) rfl hk_22, (pr_S (ws := va_pl L f_10) (wA := va_pl L f_10) (tys := [(kI, .int), (kJ, .long), (kZ, .boolean)]) hP hK (hD.weaken (fun _ _ _ _ => trivial)) hst hS hFc).2⟩ rfl rfl hl.1 rfl (lv_room (Nat.le_of_ble_eq_true rfl)) dX3_make_53 ⟨Nat.le_of_ble_eq_true rfl, Nat.le_of_ble_eq_true rfl⟩) hS (fun q _ h => hFc q h) hFc (fun r_23 u t H1 locs ht hvm hw hB hz1 hk1 hS => ?_)
        obtain ⟨f_24, hPI, hrel, hP, hD9⟩ := hB
        rw [ht] at hP
        have hD := hD9.weaken (fun _ q _ h => hFc q.1 h)
        obtain ⟨hrelF, hrel⟩ := hrel
        have eq_25 := (hrelF g0 hg0.1 (by rw [hg0.2]; rfl)).trans eq_11
        have eq_26 := (hrelF s1_1 fs1_1.1 (by rw [fs1_1.2]; rfl)).trans eq_12
        have eq_27 := (hrelF s5_1 fs5_1.1 (by rw [fs5_1.2]; rfl)).trans eq_16
        have eq_28 := (hrelF s8_1 fs8_1.1 (by rw [fs8_1.2]; rfl)).trans eq_17
        have eq_29 := (hrelF s9_1 fs9_1.1 (by rw [fs9_1.2]; rfl)).trans eq_18
        have eq_30 := (hrelF s10_1 fs10_1.1 (by rw [fs10_1.2]; rfl)).trans eq_19
        have hfr := FR.tr hfr hrelF (sK_sub (by decide))
        generalize H1 = H at hP hS ⊢
        obtain ⟨oB, hLF, hZV, hRV8⟩ := hrel
        obtain ⟨hLF2, hr2⟩ := hw
        obtain rfl : Int32.toNatClampNeg r_23 = oB := hLF2.one hLF
        have eg_31 := hRV8.1.2.1 s2_1 fs2_1
        have fg_31 := (hPI.a12 fs2_1).of eg_31
        have eg_32 := hRV8.1.2.2 s3_1 fs3_1
        have fg_32 := (hPI.a13 fs3_1).of eg_32
        have eg_33 := hRV8.2.1.1 s4_1 fs4_1
        have fg_33 := (hPI.a14 fs4_1).of eg_33
        obtain ⟨k_34, hk_34⟩ := va_plg fs1_1.1 eq_26
        have h_34 : vp_in p0 12 := (vp_in_iff.mpr (by constructor <;> omega))
        have fw_34 := updS (P := fun v => -1 ≤ v.toInt ∧ v.toInt < 6400) (k := Int32.toNatClampNeg p0) (v := r_23) fg11 (by omega)
        have hD9 := hD
        refine va_iast hx hb hK hP hD hS k_34 0 hk_34 rfl h_34 dX3_make_56 (fun H locs hP hD hS => ?_)
        have hP : va_P (dC, dI) vwCl (va_pl L (va_up f_24 s1_1 (.inl (kI, 12, .inl (upd fS (Int32.toNatClampNeg p0) r_23))))) H := by rw [← va_pls hD9 fs1_1.1 hk_34 _]; exact hP
        have hD : va_D A (va_pl L (va_up f_24 s1_1 (.inl (kI, 12, .inl (upd fS (Int32.toNatClampNeg p0) r_23))))) := by rw [← va_pls hD9 fs1_1.1 hk_34 _]; exact hD
        have hPI := hPI.put (e := .inl (kI, 12, .inl (upd fS (Int32.toNatClampNeg p0) r_23))) fs1_1 ⟨_, rfl, fw_34⟩
        have es_f_35 : va_up f_24 s1_1 (.inl (kI, 12, .inl (upd fS (Int32.toNatClampNeg p0) r_23))) s1_1 = .inl (kI, 12, .inl (upd fS (Int32.toNatClampNeg p0) r_23)) := va_up_self _ _ _
        have eq_36 := (va_up_ne f_24 (.inl (kI, 12, .inl (upd fS (Int32.toNatClampNeg p0) r_23))) (isr_ne hg0 fs1_1 (by decide))).trans eq_25
        have eq_37 := (va_up_ne f_24 (.inl (kI, 12, .inl (upd fS (Int32.toNatClampNeg p0) r_23))) (isr_ne fs5_1 fs1_1 (by decide))).trans eq_27
        have eq_38 := (va_up_ne f_24 (.inl (kI, 12, .inl (upd fS (Int32.toNatClampNeg p0) r_23))) (isr_ne fs8_1 fs1_1 (by decide))).trans eq_28
        have eq_39 := (va_up_ne f_24 (.inl (kI, 12, .inl (upd fS (Int32.toNatClampNeg p0) r_23))) (isr_ne fs9_1 fs1_1 (by decide))).trans eq_29
        have eq_40 := (va_up_ne f_24 (.inl (kI, 12, .inl (upd fS (Int32.toNatClampNeg p0) r_23))) (isr_ne fs10_1 fs1_1 (by decide))).trans eq_30
        have eq_41 := (va_up_ne f_24 (.inl (kI, 12, .inl (upd fS (Int32.toNatClampNeg p0) r_23))) (isr_ne fs2_1 fs1_1 (by decide))).trans eg_31
        have eq_42 := (va_up_ne f_24 (.inl (kI, 12, .inl (upd fS (Int32.toNatClampNeg p0) r_23))) (isr_ne fs3_1 fs1_1 (by decide))).trans eg_32
        have eq_43 := (va_up_ne f_24 (.inl (kI, 12, .inl (upd fS (Int32.toNatClampNeg p0) r_23))) (isr_ne fs4_1 fs1_1 (by decide))).trans eg_33
        have hfr := fr_up (S := (sK [11, 12, 13, 14, 16, 17])) (e := .inl (kI, 12, .inl (upd fS (Int32.toNatClampNeg p0) r_23))) hfr fs1_1 (by decide)
        generalize hg_f_35 : va_up f_24 s1_1 (.inl (kI, 12, .inl (upd fS (Int32.toNatClampNeg p0) r_23))) = f_35 at hP hD hPI es_f_35 eq_36 eq_37 eq_38 eq_39 eq_40 eq_41 eq_42 eq_43 hfr
        refine lv_iconst (v := 1) hx hb dX3_make_57 (by decide) ?_
        exact W.iret (v := 1) hx hb hr (fun t ht hW => ⟨⟨1, (), rfl, (by first | (simp only [sp_make]; done) | (simp only [sp_make] <;> (repeat' split) <;> first | (exfalso; omega) | assumption | trivial | rfl) | (simp only [sp_make] <;> (repeat' split) <;> first | (exfalso; omega) | assumption | trivial | rfl | contradiction)), f_35, hPI, ⟨hfr, _, _, _, _, Or.inr ⟨by omega, zM, r_23, hMK, hLF, hr2, rfl, rfl, rfl, rfl⟩, ⟨SV.mk hU fs1_1 fs2_1 fs3_1 es_f_35 eq_41 eq_42, ⟨un_row hU fs4_1 eq_43, un_row hU fs5_1 eq_37⟩, ⟨un_row hU fs8_1 eq_38, un_row hU fs9_1 eq_39, un_row hU fs10_1 eq_40⟩, (by rw [eq_36]; rfl), (by rw [eq_36]; rfl)⟩⟩, by rw [ht]; exact hP, hD⟩, hS.F ht⟩) hS.2.2 dX3_make_58
      · have c_7 := congrArg Int32.toInt c_7
        refine lv_iload_n hx hb dX3_make_26 rfl (lv_at hl 3 rfl) ?_
        refine lv_i2l (v := Int32.toInt64 p2) hx hb dX3_make_27 rfl ?_
        have k_z_44 := Int32.toInt_toInt64 p2
        refine lv_lconst (v := 0) hx hb dX3_make_28 (by decide) ?_
        refine lv_ldc2 hx hb hown (hts (.constantLong RX3 89 (1000)) (by decide +kernel)) dX3_make_29 ?_
        refine va_calli (va_runS (As := [.long (Int32.toInt64 p2), .long 0, .long 1000]) (rest := []) ⟨hx, hb, hml, hown, hts⟩ (c_X3_in l dC dI TT H.size (Int32.toInt64 p2) 0 1000) (va_cwS 3 hts gX3_make_X3_in rfl rfl rfl (by decide +kernel) ⟨Nat.le_of_ble_eq_true rfl, Nat.le_of_ble_eq_true rfl⟩) (pr_S (ws := []) (wA := []) (tys := []) vp_nil (hK.sub [] rfl) vd_nil hst hS (ro_free hS hA)) rfl rfl hl.1 rfl (lv_room (Nat.le_of_ble_eq_true rfl)) dX3_make_32 ⟨Nat.le_of_ble_eq_true rfl, Nat.le_of_ble_eq_true rfl⟩) hS (fun q _ h => (ro_free hS hA) q h) (ro_free hS hA) (fun r_45 u t H1 locs ht hvm hw hB hz1 hk1 hS => ?_)
        have hP := ro_keep hP hk1
        generalize H1 = H at hP hS ⊢
        rcases hw with ⟨rfl, hp_46⟩ | ⟨rfl, hp_46⟩
        · refine lv_if_ne (tgt := 41) hx hb dX3_make_35 (by decide) (fun _ => ?_) (fun c9 => absurd c9 (by decide))
          refine lv_aload_n hx hb dX3_make_41 rfl (lv_at hl 0 rfl) ?_
          have hFc := pl_free hD hS hA
          obtain ⟨k_47, hk_47⟩ := va_plg hg0.1 e_1
          refine va_callv (va_runV (b := g0) (As := []) (rest := []) ⟨hx, hb, hml, hown, hts⟩ (g_X3_look l dC dI TT H.size kI kJ kZ K L f hPI g0 hg0 hU fS fC fF hRV.1) (cwV 0 hts gX3_make_X3_lookWhatIsHeld rfl rfl rfl (by decide +kernel) ⟨Nat.le_of_ble_eq_true rfl, Nat.le_of_ble_eq_true rfl⟩) ⟨pr_blind, va_recv hK hP (ci := 3) rfl hk_47, (pr_S (ws := va_pl L f) (wA := va_pl L f) (tys := [(kI, .int), (kJ, .long), (kZ, .boolean)]) hP hK (hD.weaken (fun _ _ _ _ => trivial)) hst hS hFc).2⟩ rfl rfl hl.1 rfl (lv_room (Nat.le_of_ble_eq_true rfl)) dX3_make_42 ⟨Nat.le_of_ble_eq_true rfl, Nat.le_of_ble_eq_true rfl⟩) hS (fun q _ h => hFc q h) hFc (fun u t H1 locs ht hvm hw hB hz1 hk1 hS => ?_)
          obtain ⟨f_49, hPI, hrel, hP, hD9⟩ := hB
          rw [ht] at hP
          have hD := hD9.weaken (fun _ q _ h => hFc q.1 h)
          obtain ⟨hrelF, hrel⟩ := hrel
          have eq_50 := (hrelF g0 hg0.1 (by rw [hg0.2]; rfl)).trans e_1
          have eq_51 := (hrelF s1_1 fs1_1.1 (by rw [fs1_1.2]; rfl)).trans eg11
          have eq_52 := (hrelF s2_1 fs2_1.1 (by rw [fs2_1.2]; rfl)).trans eg12
          have eq_53 := (hrelF s3_1 fs3_1.1 (by rw [fs3_1.2]; rfl)).trans eg13
          have eq_54 := (hrelF s4_1 fs4_1.1 (by rw [fs4_1.2]; rfl)).trans eg14
          have eq_55 := (hrelF s5_1 fs5_1.1 (by rw [fs5_1.2]; rfl)).trans eg15
          have eq_56 := (hrelF s8_1 fs8_1.1 (by rw [fs8_1.2]; rfl)).trans eg18
          have eq_57 := (hrelF s9_1 fs9_1.1 (by rw [fs9_1.2]; rfl)).trans eg19
          have eq_58 := (hrelF s10_1 fs10_1.1 (by rw [fs10_1.2]; rfl)).trans eg20
          have hfr := FR.tr hfr hrelF (sK_sub (by decide))
          generalize H1 = H at hP hS ⊢
          obtain ⟨zM, hZV, hMK⟩ := hrel
          have hRV9 : RV kI kJ K L f_49 g0 fS fC fF fR fW lo ld lv lm_1 pa_1 := ⟨SV.mk hU fs1_1 fs2_1 fs3_1 eq_51 eq_52 eq_53, ⟨un_row hU fs4_1 eq_54, un_row hU fs5_1 eq_55⟩, ⟨un_row hU fs8_1 eq_56, un_row hU fs9_1 eq_57, un_row hU fs10_1 eq_58⟩, (by rw [eq_50]; rfl), (by rw [eq_50]; rfl)⟩
          have hcz := look_room hGI hMK hcap
          have eg_59 := hZV s6_1 fs6_1
          have fg_59 := (hPI.a16 fs6_1).of eg_59
          refine lv_aload_n hx hb dX3_make_45 rfl (lv_at hl 0 rfl) ?_
          obtain ⟨k_60, hk_60⟩ := va_plg hg0.1 eq_50
          refine va_get (D := (dC, dI)) (ci := 3) (v := .ref s1_1) (C := RX3) (T := TX3) (N := 23) hx hb hts iX3_ hown hK hP k_60 hk_60 rfl 0 (by decide) (hts (.fieldLink RX3 7 "FieldLeavesModel" "slot" "[I") (by decide +kernel)) (fun _ h9 => h9) rfl dX3_make_46 ?_
          refine lv_iload_n hx hb dX3_make_49 rfl (lv_at hl 1 rfl) ?_
          refine lv_aload_n hx hb dX3_make_50 rfl (lv_at hl 0 rfl) ?_
          refine lv_iload_n hx hb dX3_make_51 rfl (lv_at hl 2 rfl) ?_
          refine lv_iload_n hx hb dX3_make_52 rfl (lv_at hl 3 rfl) ?_
          have hFc := pl_free hD hS hA
          obtain ⟨k_61, hk_61⟩ := va_plg hg0.1 eq_50
          refine va_calli (va_runV (b := g0) (As := [.int p1, .int p2]) (rest := [.int p0, .ref s1_1]) ⟨hx, hb, hml, hown, hts⟩ (v_X3_born l dC dI TT H.size kI kJ kZ K L f_49 hPI g0 hg0 p1 p2 hU fS fC fF fR fW lo ld lv lm_1 pa_1 hRV9 zM hZV (by omega)) (cwV 2 hts gX3_make_X3_born rfl rfl rfl (by decide +kernel) ⟨Nat.le_of_ble_eq_true rfl, Nat.le_of_ble_eq_true rfl⟩) ⟨pr_blind, va_recv hK hP (ci := 3) rfl hk_61, (pr_S (ws := va_pl L f_49) (wA := va_pl L f_49) (tys := [(kI, .int), (kJ, .long), (kZ, .boolean)]) hP hK (hD.weaken (fun _ _ _ _ => trivial)) hst hS hFc).2⟩ rfl rfl hl.1 rfl (lv_room (Nat.le_of_ble_eq_true rfl)) dX3_make_53 ⟨Nat.le_of_ble_eq_true rfl, Nat.le_of_ble_eq_true rfl⟩) hS (fun q _ h => hFc q h) hFc (fun r_62 u t H1 locs ht hvm hw hB hz1 hk1 hS => ?_)
          obtain ⟨f_63, hPI, hrel, hP, hD9⟩ := hB
          rw [ht] at hP
          have hD := hD9.weaken (fun _ q _ h => hFc q.1 h)
          obtain ⟨hrelF, hrel⟩ := hrel
          have eq_64 := (hrelF g0 hg0.1 (by rw [hg0.2]; rfl)).trans eq_50
          have eq_65 := (hrelF s1_1 fs1_1.1 (by rw [fs1_1.2]; rfl)).trans eq_51
          have eq_66 := (hrelF s5_1 fs5_1.1 (by rw [fs5_1.2]; rfl)).trans eq_55
          have eq_67 := (hrelF s8_1 fs8_1.1 (by rw [fs8_1.2]; rfl)).trans eq_56
          have eq_68 := (hrelF s9_1 fs9_1.1 (by rw [fs9_1.2]; rfl)).trans eq_57
          have eq_69 := (hrelF s10_1 fs10_1.1 (by rw [fs10_1.2]; rfl)).trans eq_58
          have hfr := FR.tr hfr hrelF (sK_sub (by decide))
          generalize H1 = H at hP hS ⊢
          obtain ⟨oB, hLF, hZV, hRV8⟩ := hrel
          obtain ⟨hLF2, hr2⟩ := hw
          obtain rfl : Int32.toNatClampNeg r_62 = oB := hLF2.one hLF
          have eg_70 := hRV8.1.2.1 s2_1 fs2_1
          have fg_70 := (hPI.a12 fs2_1).of eg_70
          have eg_71 := hRV8.1.2.2 s3_1 fs3_1
          have fg_71 := (hPI.a13 fs3_1).of eg_71
          have eg_72 := hRV8.2.1.1 s4_1 fs4_1
          have fg_72 := (hPI.a14 fs4_1).of eg_72
          obtain ⟨k_73, hk_73⟩ := va_plg fs1_1.1 eq_65
          have h_73 : vp_in p0 12 := (vp_in_iff.mpr (by constructor <;> omega))
          have fw_73 := updS (P := fun v => -1 ≤ v.toInt ∧ v.toInt < 6400) (k := Int32.toNatClampNeg p0) (v := r_62) fg11 (by omega)
          have hD9 := hD
          refine va_iast hx hb hK hP hD hS k_73 0 hk_73 rfl h_73 dX3_make_56 (fun H locs hP hD hS => ?_)
          have hP : va_P (dC, dI) vwCl (va_pl L (va_up f_63 s1_1 (.inl (kI, 12, .inl (upd fS (Int32.toNatClampNeg p0) r_62))))) H := by rw [← va_pls hD9 fs1_1.1 hk_73 _]; exact hP
          have hD : va_D A (va_pl L (va_up f_63 s1_1 (.inl (kI, 12, .inl (upd fS (Int32.toNatClampNeg p0) r_62))))) := by rw [← va_pls hD9 fs1_1.1 hk_73 _]; exact hD
          have hPI := hPI.put (e := .inl (kI, 12, .inl (upd fS (Int32.toNatClampNeg p0) r_62))) fs1_1 ⟨_, rfl, fw_73⟩
          have es_f_74 : va_up f_63 s1_1 (.inl (kI, 12, .inl (upd fS (Int32.toNatClampNeg p0) r_62))) s1_1 = .inl (kI, 12, .inl (upd fS (Int32.toNatClampNeg p0) r_62)) := va_up_self _ _ _
          have eq_75 := (va_up_ne f_63 (.inl (kI, 12, .inl (upd fS (Int32.toNatClampNeg p0) r_62))) (isr_ne hg0 fs1_1 (by decide))).trans eq_64
          have eq_76 := (va_up_ne f_63 (.inl (kI, 12, .inl (upd fS (Int32.toNatClampNeg p0) r_62))) (isr_ne fs5_1 fs1_1 (by decide))).trans eq_66
          have eq_77 := (va_up_ne f_63 (.inl (kI, 12, .inl (upd fS (Int32.toNatClampNeg p0) r_62))) (isr_ne fs8_1 fs1_1 (by decide))).trans eq_67
          have eq_78 := (va_up_ne f_63 (.inl (kI, 12, .inl (upd fS (Int32.toNatClampNeg p0) r_62))) (isr_ne fs9_1 fs1_1 (by decide))).trans eq_68
          have eq_79 := (va_up_ne f_63 (.inl (kI, 12, .inl (upd fS (Int32.toNatClampNeg p0) r_62))) (isr_ne fs10_1 fs1_1 (by decide))).trans eq_69
          have eq_80 := (va_up_ne f_63 (.inl (kI, 12, .inl (upd fS (Int32.toNatClampNeg p0) r_62))) (isr_ne fs2_1 fs1_1 (by decide))).trans eg_70
          have eq_81 := (va_up_ne f_63 (.inl (kI, 12, .inl (upd fS (Int32.toNatClampNeg p0) r_62))) (isr_ne fs3_1 fs1_1 (by decide))).trans eg_71
          have eq_82 := (va_up_ne f_63 (.inl (kI, 12, .inl (upd fS (Int32.toNatClampNeg p0) r_62))) (isr_ne fs4_1 fs1_1 (by decide))).trans eg_72
          have hfr := fr_up (S := (sK [11, 12, 13, 14, 16, 17])) (e := .inl (kI, 12, .inl (upd fS (Int32.toNatClampNeg p0) r_62))) hfr fs1_1 (by decide)
          generalize hg_f_74 : va_up f_63 s1_1 (.inl (kI, 12, .inl (upd fS (Int32.toNatClampNeg p0) r_62))) = f_74 at hP hD hPI es_f_74 eq_75 eq_76 eq_77 eq_78 eq_79 eq_80 eq_81 eq_82 hfr
          refine lv_iconst (v := 1) hx hb dX3_make_57 (by decide) ?_
          exact W.iret (v := 1) hx hb hr (fun t ht hW => ⟨⟨1, (), rfl, (by first | (simp only [sp_make]; done) | (simp only [sp_make] <;> (repeat' split) <;> first | (exfalso; omega) | assumption | trivial | rfl) | (simp only [sp_make] <;> (repeat' split) <;> first | (exfalso; omega) | assumption | trivial | rfl | contradiction)), f_74, hPI, ⟨hfr, _, _, _, _, Or.inr ⟨by omega, zM, r_62, hMK, hLF, hr2, rfl, rfl, rfl, rfl⟩, ⟨SV.mk hU fs1_1 fs2_1 fs3_1 es_f_74 eq_80 eq_81, ⟨un_row hU fs4_1 eq_82, un_row hU fs5_1 eq_76⟩, ⟨un_row hU fs8_1 eq_77, un_row hU fs9_1 eq_78, un_row hU fs10_1 eq_79⟩, (by rw [eq_75]; rfl), (by rw [eq_75]; rfl)⟩⟩, by rw [ht]; exact hP, hD⟩, hS.F ht⟩) hS.2.2 dX3_make_58
        · refine lv_if_ne (tgt := 41) hx hb dX3_make_35 (by decide) (fun c9 => absurd c9 (by decide)) (fun _ => ?_)
          refine lv_bipush (v := (-18)) hx hb dX3_make_38 (by decide) ?_
          exact W.iret (v := (-18)) hx hb hr (fun t ht hW => ⟨⟨(-18), (), rfl, (by first | (simp only [sp_make]; done) | (simp only [sp_make] <;> (repeat' split) <;> first | (exfalso; omega) | assumption | trivial | rfl) | (simp only [sp_make] <;> (repeat' split) <;> first | (exfalso; omega) | assumption | trivial | rfl | contradiction)), f, hPI, ⟨hfr, fS, fC, fF, fR, Or.inl ⟨by omega, rfl, rfl, rfl, rfl⟩, hRV⟩, by rw [ht]; exact hP, hD⟩, hS.F ht⟩) hS.2.2 dX3_make_40
    · refine lv_if_ne (tgt := 21) hx hb dX3_make_16 (by decide) (fun c9 => absurd c9 (by decide)) (fun _ => ?_)
      refine lv_iconst (v := (-1)) hx hb dX3_make_19 (by decide) ?_
      exact W.iret (v := (-1)) hx hb hr (fun t ht hW => ⟨⟨(-1), (), rfl, (by first | (simp only [sp_make]; done) | (simp only [sp_make] <;> (repeat' split) <;> first | (exfalso; omega) | assumption | trivial | rfl) | (simp only [sp_make] <;> (repeat' split) <;> first | (exfalso; omega) | assumption | trivial | rfl | contradiction)), f, hPI, ⟨hfr, fS, fC, fF, fR, Or.inl ⟨by omega, rfl, rfl, rfl, rfl⟩, hRV⟩, by rw [ht]; exact hP, hD⟩, hS.F ht⟩) hS.2.2 dX3_make_20
  · refine lv_if_eq (tgt := 19) hx hb dX3_make_4 (by decide) (fun _ => ?_) (fun c9 => absurd c9 (by decide))
    refine lv_iconst (v := (-1)) hx hb dX3_make_19 (by decide) ?_
    exact W.iret (v := (-1)) hx hb hr (fun t ht hW => ⟨⟨(-1), (), rfl, (by first | (simp only [sp_make]; done) | (simp only [sp_make] <;> (repeat' split) <;> first | (exfalso; omega) | assumption | trivial | rfl) | (simp only [sp_make] <;> (repeat' split) <;> first | (exfalso; omega) | assumption | trivial | rfl | contradiction)), f, hPI, ⟨hfr, fS, fC, fF, fR, Or.inl ⟨by omega, rfl, rfl, rfl, rfl⟩, hRV⟩, by rw [ht]; exact hP, hD⟩, hS.F ht⟩) hS.2.2 dX3_make_20

