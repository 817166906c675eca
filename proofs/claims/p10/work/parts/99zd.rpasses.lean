set_option maxRecDepth 20000 in
theorem in_v_X3_passes_X3 : ∀ w ∈ u_ws RX3 TX3 23, w ∈ wsX3_passes := by decide +kernel
set_option maxRecDepth 100000 in
set_option maxHeartbeats 4000000 in
theorem v_X3_passes (l : Launch) (dC : Nat → ClassId) (dI : Nat → Nat → Nat) (TT : Nat × Nat × Nat) (sz : Nat) (kI kJ kZ : ClassId) (K : Nat → Nat) (L : List Nat) (f : Nat → va_E) (hPI : PR kI kJ kZ K L f) (g0 : Nat) (hg0 : isr K L 10 g0) (p0 : Int32) (p1 : Int32) (hU : UN K L) (fS fC : Nat → Int32) (fF : Nat → Int64) (fR fW lo ld : Nat → Int32) (lv : Nat → Int64) (lm pa : Int32) (hRV : RV kI kJ K L f g0 fS fC fF fR fW lo ld lv lm pa) : Met l yX3_passes wsX3_passes ({ frames := 3, cells := 0, slots := 0, locals := 67 } : Room) (va_Pc [.ref g0, .int p0, .int p1] (pr dC dI (va_pl L f) (va_pl L f) [(kI, .int), (kJ, .long), (kZ, .boolean)] sz TT)) (va_Qi (fun (r : Int32) (u : Unit) => r = rs_passes fS fC fF p0 p1) (fun (_ : Unit) t => ∃ f2 : Nat → va_E, PR kI kJ kZ K L f2 ∧ (FR (sK [10]) K L f f2 ∧ RV kI kJ K L f2 g0 fS fC fF fR fW lo ld lv lm (rw_passes pa p0 p1)) ∧ va_P (dC, dI) vwCl (va_pl L f2) t.heap ∧ va_D (va_A (va_pl L f) sz) (va_pl L f2)) (va_A (va_pl L f) sz)) 0 0 (va_A (va_pl L f) sz) := by
  refine Met.ofW (cc := cX3_passes) (maxL := 3) (ret := (some .int)) (by decide) rfl ?_
  intro p e s m args below meth c s₁ B hml hv
  obtain ⟨rfl, hsz, hP, hK, hD0, hst⟩ := hv
  have hx := B.exec
  have hb := B.bytes
  have hr := B.returns
  have hts := atoms_spec (ws := wsX3_passes) B.pre
  have hown : s.vm.findClass RX3 = some m.cls := findClass_of_methodNamed B.named
  have hlocks := B.notSynchronized
  have iX3_ := in_v_X3_passes_X3
  subst hsz
  have hD := hD0.self (sz := s.heap.size)
  generalize hAe : va_A (va_pl L f) s.heap.size = A at hD hst ⊢
  have hA : ∀ q : Nat, s.heap.size ≤ q → A q := fun q h => by rw [← hAe]; exact Or.inr h
  have hS : va_S A s.heap s.heap [] := va_S.rf
  have hl := lv_entry ([.ref g0, .int p0, .int p1]) (n := 3) (Nat.le_of_ble_eq_true rfl)
  rw [lg_entry_eq]
  generalize (lg_sl ([.ref g0, .int p0, .int p1]) ++ List.replicate (3 - (lg_sl ([.ref g0, .int p0, .int p1])).length) Slot.unset).toArray = ls at hl ⊢
  have hl : lv_has ls 3 [(0, .ref g0), (1, .int p0), (2, .int p1)] := hl
  have km1_ : Int32.toInt (-1) = -1 := by decide
  have kl1_ : Int64.toInt 1 = 1 := by decide
  have kl12_ : Int64.toInt 12 = 12 := by decide
  have hfr : FR (sK [10]) K L f f := FR.rf
  obtain ⟨s1_1, s2_1, s3_1, s4_1, s5_1, s6_1, s7_1, pa_1, lm_1, s8_1, s9_1, s10_1, fm_1, s11_1, nm_1, s12_1, s13_1, s14_1, rm_1, s15_1, s16_1, s17_1, s18_1, e_1, fs1_1, fs2_1, fs3_1, fs4_1, fs5_1, fs6_1, fs7_1, flm_1, fs8_1, fs9_1, fs10_1, ffm_1, fs11_1, fnm_1, fs12_1, fs13_1, fs14_1, frm_1, fs15_1, fs16_1, fs17_1, fs18_1⟩ := hPI.a10 hg0
  obtain ⟨k_1, hk_1⟩ := va_plg hg0.1 e_1
  have eg11 := hRV.1.1 s1_1 fs1_1
  have fg11 := (hPI.a11 fs1_1).of eg11
  have eg12 := hRV.1.2.1 s2_1 fs2_1
  have fg12 := (hPI.a12 fs2_1).of eg12
  have eg13 := hRV.1.2.2 s3_1 fs3_1
  have fg13 := (hPI.a13 fs3_1).of eg13
  have eg14 := hRV.2.1.1 s4_1 fs4_1
  have fg14 := (hPI.a14 fs4_1).of eg14
  have eg15 := hRV.2.1.2 s5_1 fs5_1
  have fg15 := (hPI.a15 fs5_1).of eg15
  have eg18 := hRV.2.2.1.1 s8_1 fs8_1
  have fg18 := (hPI.a18 fs8_1).of eg18
  have eg19 := hRV.2.2.1.2.1 s9_1 fs9_1
  have fg19 := (hPI.a19 fs9_1).of eg19
  have eg20 := hRV.2.2.1.2.2 s10_1 fs10_1
  have fg20 := (hPI.a20 fs10_1).of eg20
  obtain rfl : lm_1 = lm := (show cI (f g0) 8 = _ from by rw [e_1]; rfl).symm.trans hRV.2.2.2.1
  obtain rfl : pa_1 = pa := (show cI (f g0) 7 = _ from by rw [e_1]; rfl).symm.trans hRV.2.2.2.2
  refine lv_iload_n hx hb dX3_passes_0 rfl (lv_at hl 1 rfl) ?_
  refine va_calli (va_runS (As := [.int p0]) (rest := []) ⟨hx, hb, hml, hown, hts⟩ (c_X3_isSlot l dC dI TT s.heap.size p0) (va_cwS 1 hts gX3_passes_X3_isSlot rfl rfl rfl (by decide +kernel) ⟨Nat.le_of_ble_eq_true rfl, Nat.le_of_ble_eq_true rfl⟩) (pr_S (ws := []) (wA := []) (tys := []) vp_nil (hK.sub [] rfl) vd_nil hst hS (ro_free hS hA)) rfl rfl hl.1 rfl (lv_room (Nat.le_of_ble_eq_true rfl)) dX3_passes_1 ⟨Nat.le_of_ble_eq_true rfl, Nat.le_of_ble_eq_true rfl⟩) hS (fun q _ h => (ro_free hS hA) q h) (ro_free hS hA) (fun r_2 u t H1 locs ht hvm hw hB hz1 hk1 hS => ?_)
  have hP := ro_keep hP hk1
  generalize H1 = H at hP hS ⊢
  rcases hw with ⟨rfl, hp_3⟩ | ⟨rfl, hp_3⟩
  · refine lv_if_eq (tgt := 19) hx hb dX3_passes_4 (by decide) (fun c9 => absurd c9 (by decide)) (fun _ => ?_)
    refine lv_iload_n hx hb dX3_passes_7 rfl (lv_at hl 2 rfl) ?_
    refine lv_i2l (v := Int32.toInt64 p1) hx hb dX3_passes_8 rfl ?_
    have k_z_4 := Int32.toInt_toInt64 p1
    refine lv_lconst (v := 1) hx hb dX3_passes_9 (by decide) ?_
    refine lv_ldc2 hx hb hown (hts (.constantLong RX3 105 (12)) (by decide +kernel)) dX3_passes_10 ?_
    refine va_calli (va_runS (As := [.long (Int32.toInt64 p1), .long 1, .long 12]) (rest := []) ⟨hx, hb, hml, hown, hts⟩ (c_X3_in l dC dI TT H.size (Int32.toInt64 p1) 1 12) (va_cwS 3 hts gX3_passes_X3_in rfl rfl rfl (by decide +kernel) ⟨Nat.le_of_ble_eq_true rfl, Nat.le_of_ble_eq_true rfl⟩) (pr_S (ws := []) (wA := []) (tys := []) vp_nil (hK.sub [] rfl) vd_nil hst hS (ro_free hS hA)) rfl rfl hl.1 rfl (lv_room (Nat.le_of_ble_eq_true rfl)) dX3_passes_13 ⟨Nat.le_of_ble_eq_true rfl, Nat.le_of_ble_eq_true rfl⟩) hS (fun q _ h => (ro_free hS hA) q h) (ro_free hS hA) (fun r_5 u t H1 locs ht hvm hw hB hz1 hk1 hS => ?_)
    have hP := ro_keep hP hk1
    generalize H1 = H at hP hS ⊢
    rcases hw with ⟨rfl, hp_6⟩ | ⟨rfl, hp_6⟩
    · refine lv_if_ne (tgt := 21) hx hb dX3_passes_16 (by decide) (fun _ => ?_) (fun c9 => absurd c9 (by decide))
      refine lv_aload_n hx hb dX3_passes_21 rfl (lv_at hl 0 rfl) ?_
      refine lv_iload_n hx hb dX3_passes_22 rfl (lv_at hl 2 rfl) ?_
      obtain ⟨k_7, hk_7⟩ := va_plg hg0.1 e_1
      have hD9 := hD
      refine va_put (D := (dC, dI)) (ci := 3) (v := .int p1) (ty := .int) (C := RX3) (T := TX3) (N := 23) hx hb hts iX3_ tyX3 tyX3_ok nmX3 hown hK hP hD hS k_7 hk_7 rfl 7 (by decide) (hts (.fieldLink RX3 153 "FieldLeavesModel" "passed" "I") (by decide +kernel)) (fun _ h9 => h9) rfl (by decide +kernel) rfl rfl (Nat.le_of_ble_eq_true rfl) dX3_passes_23 (fun H locs hP hD hS => ?_)
      have hP : va_P (dC, dI) vwCl (va_pl L (va_up f g0 (.inr (3, [.ref s1_1, .ref s2_1, .ref s3_1, .ref s4_1, .ref s5_1, .ref s6_1, .ref s7_1, .int p1, .int lm_1, .ref s8_1, .ref s9_1, .ref s10_1, .int fm_1, .ref s11_1, .int nm_1, .ref s12_1, .ref s13_1, .ref s14_1, .int rm_1, .ref s15_1, .ref s16_1, .ref s17_1, .ref s18_1])))) H := by rw [← va_pls hD9 hg0.1 hk_7 _]; exact hP
      have hD : va_D A (va_pl L (va_up f g0 (.inr (3, [.ref s1_1, .ref s2_1, .ref s3_1, .ref s4_1, .ref s5_1, .ref s6_1, .ref s7_1, .int p1, .int lm_1, .ref s8_1, .ref s9_1, .ref s10_1, .int fm_1, .ref s11_1, .int nm_1, .ref s12_1, .ref s13_1, .ref s14_1, .int rm_1, .ref s15_1, .ref s16_1, .ref s17_1, .ref s18_1])))) := by rw [← va_pls hD9 hg0.1 hk_7 _]; exact hD
      have hPI := hPI.put (e := .inr (3, [.ref s1_1, .ref s2_1, .ref s3_1, .ref s4_1, .ref s5_1, .ref s6_1, .ref s7_1, .int p1, .int lm_1, .ref s8_1, .ref s9_1, .ref s10_1, .int fm_1, .ref s11_1, .int nm_1, .ref s12_1, .ref s13_1, .ref s14_1, .int rm_1, .ref s15_1, .ref s16_1, .ref s17_1, .ref s18_1])) hg0 ⟨s1_1, s2_1, s3_1, s4_1, s5_1, s6_1, s7_1, p1, lm_1, s8_1, s9_1, s10_1, fm_1, s11_1, nm_1, s12_1, s13_1, s14_1, rm_1, s15_1, s16_1, s17_1, s18_1, rfl, fs1_1, fs2_1, fs3_1, fs4_1, fs5_1, fs6_1, fs7_1, flm_1, fs8_1, fs9_1, fs10_1, ffm_1, fs11_1, fnm_1, fs12_1, fs13_1, fs14_1, frm_1, fs15_1, fs16_1, fs17_1, fs18_1⟩
      have es_f_8 : va_up f g0 (.inr (3, [.ref s1_1, .ref s2_1, .ref s3_1, .ref s4_1, .ref s5_1, .ref s6_1, .ref s7_1, .int p1, .int lm_1, .ref s8_1, .ref s9_1, .ref s10_1, .int fm_1, .ref s11_1, .int nm_1, .ref s12_1, .ref s13_1, .ref s14_1, .int rm_1, .ref s15_1, .ref s16_1, .ref s17_1, .ref s18_1])) g0 = .inr (3, [.ref s1_1, .ref s2_1, .ref s3_1, .ref s4_1, .ref s5_1, .ref s6_1, .ref s7_1, .int p1, .int lm_1, .ref s8_1, .ref s9_1, .ref s10_1, .int fm_1, .ref s11_1, .int nm_1, .ref s12_1, .ref s13_1, .ref s14_1, .int rm_1, .ref s15_1, .ref s16_1, .ref s17_1, .ref s18_1]) := va_up_self _ _ _
      have eq_9 := (va_up_ne f (.inr (3, [.ref s1_1, .ref s2_1, .ref s3_1, .ref s4_1, .ref s5_1, .ref s6_1, .ref s7_1, .int p1, .int lm_1, .ref s8_1, .ref s9_1, .ref s10_1, .int fm_1, .ref s11_1, .int nm_1, .ref s12_1, .ref s13_1, .ref s14_1, .int rm_1, .ref s15_1, .ref s16_1, .ref s17_1, .ref s18_1])) (isr_ne fs1_1 hg0 (by decide))).trans eg11
      have eq_10 := (va_up_ne f (.inr (3, [.ref s1_1, .ref s2_1, .ref s3_1, .ref s4_1, .ref s5_1, .ref s6_1, .ref s7_1, .int p1, .int lm_1, .ref s8_1, .ref s9_1, .ref s10_1, .int fm_1, .ref s11_1, .int nm_1, .ref s12_1, .ref s13_1, .ref s14_1, .int rm_1, .ref s15_1, .ref s16_1, .ref s17_1, .ref s18_1])) (isr_ne fs2_1 hg0 (by decide))).trans eg12
      have eq_11 := (va_up_ne f (.inr (3, [.ref s1_1, .ref s2_1, .ref s3_1, .ref s4_1, .ref s5_1, .ref s6_1, .ref s7_1, .int p1, .int lm_1, .ref s8_1, .ref s9_1, .ref s10_1, .int fm_1, .ref s11_1, .int nm_1, .ref s12_1, .ref s13_1, .ref s14_1, .int rm_1, .ref s15_1, .ref s16_1, .ref s17_1, .ref s18_1])) (isr_ne fs3_1 hg0 (by decide))).trans eg13
      have eq_12 := (va_up_ne f (.inr (3, [.ref s1_1, .ref s2_1, .ref s3_1, .ref s4_1, .ref s5_1, .ref s6_1, .ref s7_1, .int p1, .int lm_1, .ref s8_1, .ref s9_1, .ref s10_1, .int fm_1, .ref s11_1, .int nm_1, .ref s12_1, .ref s13_1, .ref s14_1, .int rm_1, .ref s15_1, .ref s16_1, .ref s17_1, .ref s18_1])) (isr_ne fs4_1 hg0 (by decide))).trans eg14
      have eq_13 := (va_up_ne f (.inr (3, [.ref s1_1, .ref s2_1, .ref s3_1, .ref s4_1, .ref s5_1, .ref s6_1, .ref s7_1, .int p1, .int lm_1, .ref s8_1, .ref s9_1, .ref s10_1, .int fm_1, .ref s11_1, .int nm_1, .ref s12_1, .ref s13_1, .ref s14_1, .int rm_1, .ref s15_1, .ref s16_1, .ref s17_1, .ref s18_1])) (isr_ne fs5_1 hg0 (by decide))).trans eg15
      have eq_14 := (va_up_ne f (.inr (3, [.ref s1_1, .ref s2_1, .ref s3_1, .ref s4_1, .ref s5_1, .ref s6_1, .ref s7_1, .int p1, .int lm_1, .ref s8_1, .ref s9_1, .ref s10_1, .int fm_1, .ref s11_1, .int nm_1, .ref s12_1, .ref s13_1, .ref s14_1, .int rm_1, .ref s15_1, .ref s16_1, .ref s17_1, .ref s18_1])) (isr_ne fs8_1 hg0 (by decide))).trans eg18
      have eq_15 := (va_up_ne f (.inr (3, [.ref s1_1, .ref s2_1, .ref s3_1, .ref s4_1, .ref s5_1, .ref s6_1, .ref s7_1, .int p1, .int lm_1, .ref s8_1, .ref s9_1, .ref s10_1, .int fm_1, .ref s11_1, .int nm_1, .ref s12_1, .ref s13_1, .ref s14_1, .int rm_1, .ref s15_1, .ref s16_1, .ref s17_1, .ref s18_1])) (isr_ne fs9_1 hg0 (by decide))).trans eg19
      have eq_16 := (va_up_ne f (.inr (3, [.ref s1_1, .ref s2_1, .ref s3_1, .ref s4_1, .ref s5_1, .ref s6_1, .ref s7_1, .int p1, .int lm_1, .ref s8_1, .ref s9_1, .ref s10_1, .int fm_1, .ref s11_1, .int nm_1, .ref s12_1, .ref s13_1, .ref s14_1, .int rm_1, .ref s15_1, .ref s16_1, .ref s17_1, .ref s18_1])) (isr_ne fs10_1 hg0 (by decide))).trans eg20
      have hfr := fr_up (S := (sK [10])) (e := .inr (3, [.ref s1_1, .ref s2_1, .ref s3_1, .ref s4_1, .ref s5_1, .ref s6_1, .ref s7_1, .int p1, .int lm_1, .ref s8_1, .ref s9_1, .ref s10_1, .int fm_1, .ref s11_1, .int nm_1, .ref s12_1, .ref s13_1, .ref s14_1, .int rm_1, .ref s15_1, .ref s16_1, .ref s17_1, .ref s18_1])) hfr hg0 (by decide)
      generalize hg_f_8 : va_up f g0 (.inr (3, [.ref s1_1, .ref s2_1, .ref s3_1, .ref s4_1, .ref s5_1, .ref s6_1, .ref s7_1, .int p1, .int lm_1, .ref s8_1, .ref s9_1, .ref s10_1, .int fm_1, .ref s11_1, .int nm_1, .ref s12_1, .ref s13_1, .ref s14_1, .int rm_1, .ref s15_1, .ref s16_1, .ref s17_1, .ref s18_1])) = f_8 at hP hD hPI es_f_8 eq_9 eq_10 eq_11 eq_12 eq_13 eq_14 eq_15 eq_16 hfr
      refine lv_aload_n hx hb dX3_passes_26 rfl (lv_at hl 0 rfl) ?_
      refine lv_iload_n hx hb dX3_passes_27 rfl (lv_at hl 1 rfl) ?_
      obtain ⟨k_17, hk_17⟩ := va_plg hg0.1 es_f_8
      refine va_calli (va_runV (b := g0) (As := [.int p0]) (rest := []) ⟨hx, hb, hml, hown, hts⟩ (v_X3_raise l dC dI TT H.size kI kJ kZ K L f_8 hPI g0 hg0 p0 hU fS fC fF fR fW lo ld lv lm_1 p1 ⟨SV.mk hU fs1_1 fs2_1 fs3_1 eq_9 eq_10 eq_11, ⟨un_row hU fs4_1 eq_12, un_row hU fs5_1 eq_13⟩, ⟨un_row hU fs8_1 eq_14, un_row hU fs9_1 eq_15, un_row hU fs10_1 eq_16⟩, (by rw [es_f_8]; rfl), (by rw [es_f_8]; rfl)⟩) (cwV 1 hts gX3_passes_X3_raise rfl rfl rfl (by decide +kernel) ⟨Nat.le_of_ble_eq_true rfl, Nat.le_of_ble_eq_true rfl⟩) ⟨pr_blind, va_recv hK hP (ci := 3) rfl hk_17, (pr_S (ws := va_pl L f_8) (wA := []) (tys := [(kI, .int), (kJ, .long), (kZ, .boolean)]) hP hK vd_nil hst hS (ro_free hS hA)).2⟩ rfl rfl hl.1 rfl (lv_room (Nat.le_of_ble_eq_true rfl)) dX3_passes_28 ⟨Nat.le_of_ble_eq_true rfl, Nat.le_of_ble_eq_true rfl⟩) hS (fun q _ h => (ro_free hS hA) q h) (ro_free hS hA) (fun r_18 u t H1 locs ht hvm hw hB hz1 hk1 hS => ?_)
      have hP := ro_keep hP hk1
      generalize H1 = H at hP hS ⊢
      have hq_19 := hw
      exact W.iret (v := r_18) hx hb hr (fun t ht hW => ⟨⟨r_18, (), rfl, (by first | (simp only [rs_passes, rw_passes, hq_19]; done) | (simp only [rs_passes, rw_passes, hq_19] <;> (repeat' split) <;> first | (exfalso; omega) | assumption | trivial | rfl) | (simp only [rs_passes, rw_passes, hq_19] <;> (repeat' split) <;> first | (exfalso; omega) | assumption | trivial | rfl | contradiction)), f_8, hPI, ⟨hfr, (by rw [show rw_passes pa_1 p0 p1 = p1 from (by first | (simp only [rs_passes, rw_passes, hq_19]; done) | (simp only [rs_passes, rw_passes, hq_19] <;> (repeat' split) <;> first | (exfalso; omega) | assumption | trivial | rfl) | (simp only [rs_passes, rw_passes, hq_19] <;> (repeat' split) <;> first | (exfalso; omega) | assumption | trivial | rfl | contradiction))]; exact ⟨SV.mk hU fs1_1 fs2_1 fs3_1 eq_9 eq_10 eq_11, ⟨un_row hU fs4_1 eq_12, un_row hU fs5_1 eq_13⟩, ⟨un_row hU fs8_1 eq_14, un_row hU fs9_1 eq_15, un_row hU fs10_1 eq_16⟩, (by rw [es_f_8]; rfl), (by rw [es_f_8]; rfl)⟩)⟩, by rw [ht]; exact hP, hD⟩, hS.F ht⟩) hS.2.2 dX3_passes_31
    · refine lv_if_ne (tgt := 21) hx hb dX3_passes_16 (by decide) (fun c9 => absurd c9 (by decide)) (fun _ => ?_)
      refine lv_iconst (v := (-1)) hx hb dX3_passes_19 (by decide) ?_
      exact W.iret (v := (-1)) hx hb hr (fun t ht hW => ⟨⟨(-1), (), rfl, (by first | (simp only [rs_passes, rw_passes]; done) | (simp only [rs_passes, rw_passes] <;> (repeat' split) <;> first | (exfalso; omega) | assumption | trivial | rfl) | (simp only [rs_passes, rw_passes] <;> (repeat' split) <;> first | (exfalso; omega) | assumption | trivial | rfl | contradiction)), f, hPI, ⟨hfr, (by rw [show rw_passes pa_1 p0 p1 = pa_1 from (by first | (simp only [rs_passes, rw_passes]; done) | (simp only [rs_passes, rw_passes] <;> (repeat' split) <;> first | (exfalso; omega) | assumption | trivial | rfl) | (simp only [rs_passes, rw_passes] <;> (repeat' split) <;> first | (exfalso; omega) | assumption | trivial | rfl | contradiction))]; exact hRV)⟩, by rw [ht]; exact hP, hD⟩, hS.F ht⟩) hS.2.2 dX3_passes_20
  · refine lv_if_eq (tgt := 19) hx hb dX3_passes_4 (by decide) (fun _ => ?_) (fun c9 => absurd c9 (by decide))
    refine lv_iconst (v := (-1)) hx hb dX3_passes_19 (by decide) ?_
    exact W.iret (v := (-1)) hx hb hr (fun t ht hW => ⟨⟨(-1), (), rfl, (by first | (simp only [rs_passes, rw_passes]; done) | (simp only [rs_passes, rw_passes] <;> (repeat' split) <;> first | (exfalso; omega) | assumption | trivial | rfl) | (simp only [rs_passes, rw_passes] <;> (repeat' split) <;> first | (exfalso; omega) | assumption | trivial | rfl | contradiction)), f, hPI, ⟨hfr, (by rw [show rw_passes pa_1 p0 p1 = pa_1 from (by first | (simp only [rs_passes, rw_passes]; done) | (simp only [rs_passes, rw_passes] <;> (repeat' split) <;> first | (exfalso; omega) | assumption | trivial | rfl) | (simp only [rs_passes, rw_passes] <;> (repeat' split) <;> first | (exfalso; omega) | assumption | trivial | rfl | contradiction))]; exact hRV)⟩, by rw [ht]; exact hP, hD⟩, hS.F ht⟩) hS.2.2 dX3_passes_20
set_option maxRecDepth 20000 in
theorem in_v_X3_alter_X3 : ∀ w ∈ u_ws RX3 TX3 23, w ∈ wsX3_alter := by decide +kernel
set_option maxRecDepth 100000 in
set_option maxHeartbeats 4000000 in
theorem v_X3_alter (l : Launch) (dC : Nat → ClassId) (dI : Nat → Nat → Nat) (TT : Nat × Nat × Nat) (sz : Nat) (kI kJ kZ : ClassId) (K : Nat → Nat) (L : List Nat) (f : Nat → va_E) (hPI : PR kI kJ kZ K L f) (g0 : Nat) (hg0 : isr K L 10 g0) (p0 : Int32) (p1 : Int64) (hU : UN K L) (fS fC : Nat → Int32) (fF : Nat → Int64) (fR fW lo ld : Nat → Int32) (lv : Nat → Int64) (lm pa : Int32) (hRV : RV kI kJ K L f g0 fS fC fF fR fW lo ld lv lm pa) : Met l yX3_alter wsX3_alter ({ frames := 1, cells := 0, slots := 0, locals := 25 } : Room) (va_Pc [.ref g0, .int p0, .long p1] (pr dC dI (va_pl L f) (va_pl L f) [(kI, .int), (kJ, .long), (kZ, .boolean)] sz TT)) (va_Qi (fun (r : Int32) (u : Unit) => r = rs_alter lm ld p0) (fun (_ : Unit) t => ∃ f2 : Nat → va_E, PR kI kJ kZ K L f2 ∧ (FR (sK [20]) K L f f2 ∧ RV kI kJ K L f2 g0 fS fC fF fR fW lo ld (rw_alter lm ld lv p0 p1) lm pa) ∧ va_P (dC, dI) vwCl (va_pl L f2) t.heap ∧ va_D (va_A (va_pl L f) sz) (va_pl L f2)) (va_A (va_pl L f) sz)) 0 0 (va_A (va_pl L f) sz) := by
  refine Met.ofW (cc := cX3_alter) (maxL := 4) (ret := (some .int)) (by decide) rfl ?_
  intro p e s m args below meth c s₁ B hml hv
  obtain ⟨rfl, hsz, hP, hK, hD0, hst⟩ := hv
  have hx := B.exec
  have hb := B.bytes
  have hr := B.returns
  have hts := atoms_spec (ws := wsX3_alter) B.pre
  have hown : s.vm.findClass RX3 = some m.cls := findClass_of_methodNamed B.named
  have hlocks := B.notSynchronized
  have iX3_ := in_v_X3_alter_X3
  subst hsz
  have hD := hD0.self (sz := s.heap.size)
  generalize hAe : va_A (va_pl L f) s.heap.size = A at hD hst ⊢
  have hA : ∀ q : Nat, s.heap.size ≤ q → A q := fun q h => by rw [← hAe]; exact Or.inr h
  have hS : va_S A s.heap s.heap [] := va_S.rf
  have hl := lv_entry ([.ref g0, .int p0, .long p1]) (n := 4) (Nat.le_of_ble_eq_true rfl)
  rw [lg_entry_eq]
  generalize (lg_sl ([.ref g0, .int p0, .long p1]) ++ List.replicate (4 - (lg_sl ([.ref g0, .int p0, .long p1])).length) Slot.unset).toArray = ls at hl ⊢
  have hl : lv_has ls 4 [(0, .ref g0), (1, .int p0), (2, .long p1)] := hl
  have km1_ : Int32.toInt (-1) = -1 := by decide
  have k1_ : Int32.toInt 1 = 1 := by decide
  have k9_ : Int32.toInt 9 = 9 := by decide
  have kl0_ : Int64.toInt 0 = 0 := by decide
  have hfr : FR (sK [20]) K L f f := FR.rf
  obtain ⟨s1_1, s2_1, s3_1, s4_1, s5_1, s6_1, s7_1, pa_1, lm_1, s8_1, s9_1, s10_1, fm_1, s11_1, nm_1, s12_1, s13_1, s14_1, rm_1, s15_1, s16_1, s17_1, s18_1, e_1, fs1_1, fs2_1, fs3_1, fs4_1, fs5_1, fs6_1, fs7_1, flm_1, fs8_1, fs9_1, fs10_1, ffm_1, fs11_1, fnm_1, fs12_1, fs13_1, fs14_1, frm_1, fs15_1, fs16_1, fs17_1, fs18_1⟩ := hPI.a10 hg0
  obtain ⟨k_1, hk_1⟩ := va_plg hg0.1 e_1
  have eg11 := hRV.1.1 s1_1 fs1_1
  have fg11 := (hPI.a11 fs1_1).of eg11
  have eg12 := hRV.1.2.1 s2_1 fs2_1
  have fg12 := (hPI.a12 fs2_1).of eg12
  have eg13 := hRV.1.2.2 s3_1 fs3_1
  have fg13 := (hPI.a13 fs3_1).of eg13
  have eg14 := hRV.2.1.1 s4_1 fs4_1
  have fg14 := (hPI.a14 fs4_1).of eg14
  have eg15 := hRV.2.1.2 s5_1 fs5_1
  have fg15 := (hPI.a15 fs5_1).of eg15
  have eg18 := hRV.2.2.1.1 s8_1 fs8_1
  have fg18 := (hPI.a18 fs8_1).of eg18
  have eg19 := hRV.2.2.1.2.1 s9_1 fs9_1
  have fg19 := (hPI.a19 fs9_1).of eg19
  have eg20 := hRV.2.2.1.2.2 s10_1 fs10_1
  have fg20 := (hPI.a20 fs10_1).of eg20
  obtain rfl : lm_1 = lm := (show cI (f g0) 8 = _ from by rw [e_1]; rfl).symm.trans hRV.2.2.2.1
  obtain rfl : pa_1 = pa := (show cI (f g0) 7 = _ from by rw [e_1]; rfl).symm.trans hRV.2.2.2.2
  refine lv_iload_n hx hb dX3_alter_0 rfl (lv_at hl 1 rfl) ?_
  refine lv_i2l (v := Int32.toInt64 p0) hx hb dX3_alter_1 rfl ?_
  have k_z_2 := Int32.toInt_toInt64 p0
  refine lv_lconst (v := 0) hx hb dX3_alter_2 (by decide) ?_
  refine lv_aload_n hx hb dX3_alter_3 rfl (lv_at hl 0 rfl) ?_
  obtain ⟨k_3, hk_3⟩ := va_plg hg0.1 e_1
  refine va_get (D := (dC, dI)) (ci := 3) (v := .int lm_1) (C := RX3) (T := TX3) (N := 23) hx hb hts iX3_ hown hK hP k_3 hk_3 rfl 8 (by decide) (hts (.fieldLink RX3 184 "FieldLeavesModel" "leafMany" "I") (by decide +kernel)) (fun _ h9 => h9) rfl dX3_alter_4 ?_
  refine lv_iconst (v := 1) hx hb dX3_alter_7 (by decide) ?_
  refine lv_isub hx hb dX3_alter_8 ?_
  refine lv_topi (fun z_4 ez_4 => ?_)
  have kz_4 := sub_toInt2 ez_4 (by omega) (by omega)
  refine lv_i2l (v := Int32.toInt64 z_4) hx hb dX3_alter_9 rfl ?_
  have k_z_5 := Int32.toInt_toInt64 z_4
  refine va_calli (va_runS (As := [.long (Int32.toInt64 p0), .long 0, .long (Int32.toInt64 z_4)]) (rest := []) ⟨hx, hb, hml, hown, hts⟩ (c_X3_in l dC dI TT s.heap.size (Int32.toInt64 p0) 0 (Int32.toInt64 z_4)) (va_cwS 3 hts gX3_alter_X3_in rfl rfl rfl (by decide +kernel) ⟨Nat.le_of_ble_eq_true rfl, Nat.le_of_ble_eq_true rfl⟩) (pr_S (ws := []) (wA := []) (tys := []) vp_nil (hK.sub [] rfl) vd_nil hst hS (ro_free hS hA)) rfl rfl hl.1 rfl (lv_room (Nat.le_of_ble_eq_true rfl)) dX3_alter_10 ⟨Nat.le_of_ble_eq_true rfl, Nat.le_of_ble_eq_true rfl⟩) hS (fun q _ h => (ro_free hS hA) q h) (ro_free hS hA) (fun r_6 u t H1 locs ht hvm hw hB hz1 hk1 hS => ?_)
  have hP := ro_keep hP hk1
  generalize H1 = H at hP hS ⊢
  rcases hw with ⟨rfl, hp_7⟩ | ⟨rfl, hp_7⟩
  · refine lv_if_eq (tgt := 37) hx hb dX3_alter_13 (by decide) (fun c9 => absurd c9 (by decide)) (fun _ => ?_)
    refine lv_aload_n hx hb dX3_alter_16 rfl (lv_at hl 0 rfl) ?_
    obtain ⟨k_8, hk_8⟩ := va_plg hg0.1 e_1
    refine va_get (D := (dC, dI)) (ci := 3) (v := .ref s9_1) (C := RX3) (T := TX3) (N := 23) hx hb hts iX3_ hown hK hP k_8 hk_8 rfl 10 (by decide) (hts (.fieldLink RX3 38 "FieldLeavesModel" "leafField" "[I") (by decide +kernel)) (fun _ h9 => h9) rfl dX3_alter_17 ?_
    refine lv_iload_n hx hb dX3_alter_20 rfl (lv_at hl 1 rfl) ?_
    obtain ⟨k_9, hk_9⟩ := va_plg fs9_1.1 eg19
    have h_9 : vp_in p0 300 := (vp_in_iff.mpr (by constructor <;> omega))
    refine va_iald hx hb hK hP k_9 0 hk_9 rfl h_9 dX3_alter_21 ?_
    refine lv_topi (fun z_9 ez_9 => ?_)
    have fz_9 := fg19 _ (vp_lt h_9)
    rw [← ez_9] at fz_9
    have hdez_9 := congrArg Int32.toInt ez_9
    refine lv_iconst (v := (-1)) hx hb dX3_alter_22 (by decide) ?_
    refine lv_icmp_eq (tgt := 37) hx hb dX3_alter_23 (by decide) (fun c_10 => ?_) (fun c_10 => ?_)
    · have c_10 := congrArg Int32.toInt c_10
      refine lv_iconst (v := (-1)) hx hb dX3_alter_37 (by decide) ?_
      exact W.iret (v := (-1)) hx hb hr (fun t ht hW => ⟨⟨(-1), (), rfl, (by first | (simp only [rs_alter, rw_alter, ← ez_4, ← ez_9]; done) | (simp only [rs_alter, rw_alter, ← ez_4, ← ez_9] <;> (repeat' split) <;> first | (exfalso; omega) | assumption | trivial | rfl) | (simp only [rs_alter, rw_alter, ez_4, ez_9] <;> (repeat' split) <;> first | (exfalso; omega) | assumption | trivial | rfl | contradiction) | (subst ez_4 ez_9; simp only [rs_alter, rw_alter] <;> (repeat' split) <;> first | (exfalso; omega) | assumption | trivial | rfl)), f, hPI, ⟨hfr, (by rw [show rw_alter lm_1 ld lv p0 p1 = lv from (by first | (simp only [rs_alter, rw_alter, ← ez_4, ← ez_9]; done) | (simp only [rs_alter, rw_alter, ← ez_4, ← ez_9] <;> (repeat' split) <;> first | (exfalso; omega) | assumption | trivial | rfl) | (simp only [rs_alter, rw_alter, ez_4, ez_9] <;> (repeat' split) <;> first | (exfalso; omega) | assumption | trivial | rfl | contradiction) | (subst ez_4 ez_9; simp only [rs_alter, rw_alter] <;> (repeat' split) <;> first | (exfalso; omega) | assumption | trivial | rfl))]; exact hRV)⟩, by rw [ht]; exact hP, hD⟩, hS.F ht⟩) hS.2.2 dX3_alter_38
    · have c_10 := mt Int32.toInt_inj.mp c_10
      refine lv_aload_n hx hb dX3_alter_26 rfl (lv_at hl 0 rfl) ?_
      obtain ⟨k_11, hk_11⟩ := va_plg hg0.1 e_1
      refine va_get (D := (dC, dI)) (ci := 3) (v := .ref s9_1) (C := RX3) (T := TX3) (N := 23) hx hb hts iX3_ hown hK hP k_11 hk_11 rfl 10 (by decide) (hts (.fieldLink RX3 38 "FieldLeavesModel" "leafField" "[I") (by decide +kernel)) (fun _ h9 => h9) rfl dX3_alter_27 ?_
      refine lv_iload_n hx hb dX3_alter_30 rfl (lv_at hl 1 rfl) ?_
      obtain ⟨k_12, hk_12⟩ := va_plg fs9_1.1 eg19
      have h_12 : vp_in p0 300 := (vp_in_iff.mpr (by constructor <;> omega))
      refine va_iald hx hb hK hP k_12 0 hk_12 rfl h_12 dX3_alter_31 ?_
      refine lv_topi (fun z_12 ez_12 => ?_)
      obtain rfl : z_9 = z_12 := ez_9.trans ez_12.symm
      refine lv_bipush (v := 9) hx hb dX3_alter_32 (by decide) ?_
      refine lv_icmp_ne (tgt := 39) hx hb dX3_alter_34 (by decide) (fun c_13 => ?_) (fun c_13 => ?_)
      · have c_13 := mt Int32.toInt_inj.mp c_13
        refine lv_aload_n hx hb dX3_alter_39 rfl (lv_at hl 0 rfl) ?_
        obtain ⟨k_14, hk_14⟩ := va_plg hg0.1 e_1
        refine va_get (D := (dC, dI)) (ci := 3) (v := .ref s10_1) (C := RX3) (T := TX3) (N := 23) hx hb hts iX3_ hown hK hP k_14 hk_14 rfl 11 (by decide) (hts (.fieldLink RX3 41 "FieldLeavesModel" "leafValue" "[J") (by decide +kernel)) (fun _ h9 => h9) rfl dX3_alter_40 ?_
        refine lv_iload_n hx hb dX3_alter_43 rfl (lv_at hl 1 rfl) ?_
        refine lv_lload_n hx hb dX3_alter_44 rfl (lv_at hl 2 rfl) ?_
        obtain ⟨k_15, hk_15⟩ := va_plg fs10_1.1 eg20
        have h_15 : vp_in p0 300 := (vp_in_iff.mpr (by constructor <;> omega))
        have fw_15 := trivial
        have hD9 := hD
        refine va_last hx hb hK hP hD hS k_15 1 hk_15 rfl h_15 dX3_alter_45 (fun H locs hP hD hS => ?_)
        have hP : va_P (dC, dI) vwCl (va_pl L (va_up f s10_1 (.inl (kJ, 300, .inr (.inl (vp_updL lv (Int32.toNatClampNeg p0) p1)))))) H := by rw [← va_pls hD9 fs10_1.1 hk_15 _]; exact hP
        have hD : va_D A (va_pl L (va_up f s10_1 (.inl (kJ, 300, .inr (.inl (vp_updL lv (Int32.toNatClampNeg p0) p1)))))) := by rw [← va_pls hD9 fs10_1.1 hk_15 _]; exact hD
        have hPI := hPI.put (e := .inl (kJ, 300, .inr (.inl (vp_updL lv (Int32.toNatClampNeg p0) p1)))) fs10_1 ⟨_, rfl, fw_15⟩
        have es_f_16 : va_up f s10_1 (.inl (kJ, 300, .inr (.inl (vp_updL lv (Int32.toNatClampNeg p0) p1)))) s10_1 = .inl (kJ, 300, .inr (.inl (vp_updL lv (Int32.toNatClampNeg p0) p1))) := va_up_self _ _ _
        have eq_17 := (va_up_ne f (.inl (kJ, 300, .inr (.inl (vp_updL lv (Int32.toNatClampNeg p0) p1)))) (isr_ne hg0 fs10_1 (by decide))).trans e_1
        have eq_18 := (va_up_ne f (.inl (kJ, 300, .inr (.inl (vp_updL lv (Int32.toNatClampNeg p0) p1)))) (isr_ne fs1_1 fs10_1 (by decide))).trans eg11
        have eq_19 := (va_up_ne f (.inl (kJ, 300, .inr (.inl (vp_updL lv (Int32.toNatClampNeg p0) p1)))) (isr_ne fs2_1 fs10_1 (by decide))).trans eg12
        have eq_20 := (va_up_ne f (.inl (kJ, 300, .inr (.inl (vp_updL lv (Int32.toNatClampNeg p0) p1)))) (isr_ne fs3_1 fs10_1 (by decide))).trans eg13
        have eq_21 := (va_up_ne f (.inl (kJ, 300, .inr (.inl (vp_updL lv (Int32.toNatClampNeg p0) p1)))) (isr_ne fs4_1 fs10_1 (by decide))).trans eg14
        have eq_22 := (va_up_ne f (.inl (kJ, 300, .inr (.inl (vp_updL lv (Int32.toNatClampNeg p0) p1)))) (isr_ne fs5_1 fs10_1 (by decide))).trans eg15
        have eq_23 := (va_up_ne f (.inl (kJ, 300, .inr (.inl (vp_updL lv (Int32.toNatClampNeg p0) p1)))) (isr_ne fs8_1 fs10_1 (by decide))).trans eg18
        have eq_24 := (va_up_ne f (.inl (kJ, 300, .inr (.inl (vp_updL lv (Int32.toNatClampNeg p0) p1)))) (isr_ne fs9_1 fs10_1 (by decide))).trans eg19
        have hfr := fr_up (S := (sK [20])) (e := .inl (kJ, 300, .inr (.inl (vp_updL lv (Int32.toNatClampNeg p0) p1)))) hfr fs10_1 (by decide)
        generalize hg_f_16 : va_up f s10_1 (.inl (kJ, 300, .inr (.inl (vp_updL lv (Int32.toNatClampNeg p0) p1)))) = f_16 at hP hD hPI es_f_16 eq_17 eq_18 eq_19 eq_20 eq_21 eq_22 eq_23 eq_24 hfr
        refine lv_iconst (v := 1) hx hb dX3_alter_46 (by decide) ?_
        exact W.iret (v := 1) hx hb hr (fun t ht hW => ⟨⟨1, (), rfl, (by first | (simp only [rs_alter, rw_alter, ← ez_4, ← ez_9]; done) | (simp only [rs_alter, rw_alter, ← ez_4, ← ez_9] <;> (repeat' split) <;> first | (exfalso; omega) | assumption | trivial | rfl) | (simp only [rs_alter, rw_alter, ez_4, ez_9] <;> (repeat' split) <;> first | (exfalso; omega) | assumption | trivial | rfl | contradiction) | (subst ez_4 ez_9; simp only [rs_alter, rw_alter] <;> (repeat' split) <;> first | (exfalso; omega) | assumption | trivial | rfl)), f_16, hPI, ⟨hfr, (by rw [show rw_alter lm_1 ld lv p0 p1 = (vp_updL lv (Int32.toNatClampNeg p0) p1) from (by first | (simp only [rs_alter, rw_alter, ← ez_4, ← ez_9]; done) | (simp only [rs_alter, rw_alter, ← ez_4, ← ez_9] <;> (repeat' split) <;> first | (exfalso; omega) | assumption | trivial | rfl) | (simp only [rs_alter, rw_alter, ez_4, ez_9] <;> (repeat' split) <;> first | (exfalso; omega) | assumption | trivial | rfl | contradiction) | (subst ez_4 ez_9; simp only [rs_alter, rw_alter] <;> (repeat' split) <;> first | (exfalso; omega) | assumption | trivial | rfl))]; exact ⟨SV.mk hU fs1_1 fs2_1 fs3_1 eq_18 eq_19 eq_20, ⟨un_row hU fs4_1 eq_21, un_row hU fs5_1 eq_22⟩, ⟨un_row hU fs8_1 eq_23, un_row hU fs9_1 eq_24, un_row hU fs10_1 es_f_16⟩, (by rw [eq_17]; rfl), (by rw [eq_17]; rfl)⟩)⟩, by rw [ht]; exact hP, hD⟩, hS.F ht⟩) hS.2.2 dX3_alter_47
      · have c_13 := congrArg Int32.toInt c_13
        refine lv_iconst (v := (-1)) hx hb dX3_alter_37 (by decide) ?_
        exact W.iret (v := (-1)) hx hb hr (fun t ht hW => ⟨⟨(-1), (), rfl, (by first | (simp only [rs_alter, rw_alter, ← ez_4, ← ez_9]; done) | (simp only [rs_alter, rw_alter, ← ez_4, ← ez_9] <;> (repeat' split) <;> first | (exfalso; omega) | assumption | trivial | rfl) | (simp only [rs_alter, rw_alter, ez_4, ez_9] <;> (repeat' split) <;> first | (exfalso; omega) | assumption | trivial | rfl | contradiction) | (subst ez_4 ez_9; simp only [rs_alter, rw_alter] <;> (repeat' split) <;> first | (exfalso; omega) | assumption | trivial | rfl)), f, hPI, ⟨hfr, (by rw [show rw_alter lm_1 ld lv p0 p1 = lv from (by first | (simp only [rs_alter, rw_alter, ← ez_4, ← ez_9]; done) | (simp only [rs_alter, rw_alter, ← ez_4, ← ez_9] <;> (repeat' split) <;> first | (exfalso; omega) | assumption | trivial | rfl) | (simp only [rs_alter, rw_alter, ez_4, ez_9] <;> (repeat' split) <;> first | (exfalso; omega) | assumption | trivial | rfl | contradiction) | (subst ez_4 ez_9; simp only [rs_alter, rw_alter] <;> (repeat' split) <;> first | (exfalso; omega) | assumption | trivial | rfl))]; exact hRV)⟩, by rw [ht]; exact hP, hD⟩, hS.F ht⟩) hS.2.2 dX3_alter_38
  · refine lv_if_eq (tgt := 37) hx hb dX3_alter_13 (by decide) (fun _ => ?_) (fun c9 => absurd c9 (by decide))
    refine lv_iconst (v := (-1)) hx hb dX3_alter_37 (by decide) ?_
    exact W.iret (v := (-1)) hx hb hr (fun t ht hW => ⟨⟨(-1), (), rfl, (by first | (simp only [rs_alter, rw_alter, ← ez_4]; done) | (simp only [rs_alter, rw_alter, ← ez_4] <;> (repeat' split) <;> first | (exfalso; omega) | assumption | trivial | rfl) | (simp only [rs_alter, rw_alter, ez_4] <;> (repeat' split) <;> first | (exfalso; omega) | assumption | trivial | rfl | contradiction) | (subst ez_4; simp only [rs_alter, rw_alter] <;> (repeat' split) <;> first | (exfalso; omega) | assumption | trivial | rfl)), f, hPI, ⟨hfr, (by rw [show rw_alter lm_1 ld lv p0 p1 = lv from (by first | (simp only [rs_alter, rw_alter, ← ez_4]; done) | (simp only [rs_alter, rw_alter, ← ez_4] <;> (repeat' split) <;> first | (exfalso; omega) | assumption | trivial | rfl) | (simp only [rs_alter, rw_alter, ez_4] <;> (repeat' split) <;> first | (exfalso; omega) | assumption | trivial | rfl | contradiction) | (subst ez_4; simp only [rs_alter, rw_alter] <;> (repeat' split) <;> first | (exfalso; omega) | assumption | trivial | rfl))]; exact hRV)⟩, by rw [ht]; exact hP, hD⟩, hS.F ht⟩) hS.2.2 dX3_alter_38

