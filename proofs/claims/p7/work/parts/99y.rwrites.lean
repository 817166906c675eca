set_option maxRecDepth 20000 in
theorem in_v_X3_clear_X3 : ∀ w ∈ u_ws RX3 TX3 23, w ∈ wsX3_clear := by decide +kernel
set_option maxRecDepth 100000 in
set_option maxHeartbeats 4000000 in
theorem v_X3_clear (l : Launch) (dC : Nat → ClassId) (dI : Nat → Nat → Nat) (TT : Nat × Nat × Nat) (sz : Nat) (kI kJ kZ : ClassId) (K : Nat → Nat) (L : List Nat) (f : Nat → va_E) (hPI : PR kI kJ kZ K L f) (g0 : Nat) (hg0 : isr K L 10 g0) (p0 : Int32) (hU : UN K L) (fS fC : Nat → Int32) (fF : Nat → Int64) (fR fW lo ld : Nat → Int32) (lv : Nat → Int64) (lm pa : Int32) (hRV : RV kI kJ K L f g0 fS fC fF fR fW lo ld lv lm pa) : Met l yX3_clear wsX3_clear ({ frames := 2, cells := 0, slots := 0, locals := 45 } : Room) (va_Pc [.ref g0, .int p0] (pr dC dI (va_pl L f) (va_pl L f) [(kI, .int), (kJ, .long), (kZ, .boolean)] sz TT)) (va_Qi (fun (r : Int32) (u : Unit) => r = rs_clear fS p0) (fun (_ : Unit) t => ∃ f2 : Nat → va_E, PR kI kJ kZ K L f2 ∧ (FR (sK [11]) K L f f2 ∧ RV kI kJ K L f2 g0 (rw_clear fS p0) fC fF fR fW lo ld lv lm pa) ∧ va_P (dC, dI) vwCl (va_pl L f2) t.heap ∧ va_D (va_A (va_pl L f) sz) (va_pl L f2)) (va_A (va_pl L f) sz)) 0 0 (va_A (va_pl L f) sz) := by
  refine Met.ofW (cc := cX3_clear) (maxL := 3) (ret := (some .int)) (by decide) rfl ?_
  intro p e s m args below meth c s₁ B hml hv
  obtain ⟨rfl, hsz, hP, hK, hD0, hst⟩ := hv
  have hx := B.exec
  have hb := B.bytes
  have hr := B.returns
  have hts := atoms_spec (ws := wsX3_clear) B.pre
  have hown : s.vm.findClass RX3 = some m.cls := findClass_of_methodNamed B.named
  have hlocks := B.notSynchronized
  have iX3_ := in_v_X3_clear_X3
  subst hsz
  have hD := hD0.self (sz := s.heap.size)
  generalize hAe : va_A (va_pl L f) s.heap.size = A at hD hst ⊢
  have hA : ∀ q : Nat, s.heap.size ≤ q → A q := fun q h => by rw [← hAe]; exact Or.inr h
  have hS : va_S A s.heap s.heap [] := va_S.rf
  have hl := lv_entry ([.ref g0, .int p0]) (n := 3) (Nat.le_of_ble_eq_true rfl)
  rw [lg_entry_eq]
  generalize (lg_sl ([.ref g0, .int p0]) ++ List.replicate (3 - (lg_sl ([.ref g0, .int p0])).length) Slot.unset).toArray = ls at hl ⊢
  have hl : lv_has ls 3 [(0, .ref g0), (1, .int p0)] := hl
  have km1_ : Int32.toInt (-1) = -1 := by decide
  have k0_ : Int32.toInt 0 = 0 := by decide
  have k1_ : Int32.toInt 1 = 1 := by decide
  have hfr : FR (sK [11]) K L f f := FR.rf
  (refine hPI.a10E hg0 ?_; intro s1_1 s2_1 s3_1 s4_1 s5_1 s6_1 s7_1 pa_1 lm_1 s8_1 s9_1 s10_1 fm_1 s11_1 nm_1 s12_1 s13_1 s14_1 rm_1 s15_1 s16_1 s17_1 s18_1 e_1 fs1_1 fs2_1 fs3_1 fs4_1 fs5_1 fs6_1 fs7_1 flm_1 fs8_1 fs9_1 fs10_1 ffm_1 fs11_1 fnm_1 fs12_1 fs13_1 fs14_1 frm_1 fs15_1 fs16_1 fs17_1 fs18_1)
  obtain ⟨k_1, hk_1⟩ := va_plg hg0.1 e_1
  have eg11 := hRV.1.1 s1_1 fs1_1
  have fg11 := (hPI.a11 fs1_1).of eg11
  have eg12 := hRV.1.2.1 s2_1 fs2_1
  have fg12 := (hPI.a12 fs2_1).of eg12
  have eg13 := hRV.1.2.2 s3_1 fs3_1
  have fg13 := (hPI.a13 fs3_1).of eg13
  have eg14 := hRV.2.1.1 s4_1 fs4_1
  have fg14 := (hPI.a14 fs4_1).of eg14
  have eg15 := hRV.2.1.2 s5_1 fs5_1
  have fg15 := (hPI.a15 fs5_1).of eg15
  have eg18 := hRV.2.2.1.1 s8_1 fs8_1
  have fg18 := (hPI.a18 fs8_1).of eg18
  have eg19 := hRV.2.2.1.2.1 s9_1 fs9_1
  have fg19 := (hPI.a19 fs9_1).of eg19
  have eg20 := hRV.2.2.1.2.2 s10_1 fs10_1
  have fg20 := (hPI.a20 fs10_1).of eg20
  obtain rfl : lm_1 = lm := (show cI (f g0) 8 = _ from by rw [e_1]; rfl).symm.trans hRV.2.2.2.1
  obtain rfl : pa_1 = pa := (show cI (f g0) 7 = _ from by rw [e_1]; rfl).symm.trans hRV.2.2.2.2
  refine lv_iload_n hx hb dX3_clear_0 rfl (lv_at hl 1 rfl) ?_
  refine va_calli (va_runS (As := [.int p0]) (rest := []) ⟨hx, hb, hml, hown, hts⟩ (c_X3_isSlot l dC dI TT s.heap.size p0) (va_cwS 1 hts gX3_clear_X3_isSlot rfl rfl rfl (by decide +kernel) ⟨Nat.le_of_ble_eq_true rfl, Nat.le_of_ble_eq_true rfl⟩) (pr_S (ws := []) (wA := []) (tys := []) vp_nil (hK.sub [] rfl) vd_nil hst hS (ro_free hS hA)) rfl rfl hl.1 rfl (lv_room (Nat.le_of_ble_eq_true rfl)) dX3_clear_1 ⟨Nat.le_of_ble_eq_true rfl, Nat.le_of_ble_eq_true rfl⟩) hS (fun q _ h => (ro_free hS hA) q h) (ro_free hS hA) (fun r_2 u t H1 locs ht hvm hw hB hz1 hk1 hS => ?_)
  have hP := ro_keep hP hk1
  generalize H1 = H at hP hS ⊢
  rcases hw with ⟨rfl, hp_3⟩ | ⟨rfl, hp_3⟩
  · refine lv_if_ne (tgt := 9) hx hb dX3_clear_4 (by decide) (fun _ => ?_) (fun c9 => absurd c9 (by decide))
    refine lv_aload_n hx hb dX3_clear_9 rfl (lv_at hl 0 rfl) ?_
    obtain ⟨k_4, hk_4⟩ := va_plg hg0.1 e_1
    refine va_get (D := (dC, dI)) (ci := 3) (v := .ref s1_1) (C := RX3) (T := TX3) (N := 23) hx hb hts iX3_ hown hK hP k_4 hk_4 rfl 0 (by decide) (hts (.fieldLink RX3 7 "FieldLeavesModel" "slot" "[I") (by decide +kernel)) (fun _ h9 => h9) rfl dX3_clear_10 ?_
    refine lv_iload_n hx hb dX3_clear_13 rfl (lv_at hl 1 rfl) ?_
    obtain ⟨k_5, hk_5⟩ := va_plg fs1_1.1 eg11
    have h_5 : vp_in p0 12 := (vp_in_iff.mpr (by constructor <;> omega))
    refine va_iald hx hb hK hP k_5 0 hk_5 rfl h_5 dX3_clear_14 ?_
    refine lv_topi (fun z_5 ez_5 => ?_)
    have fz_5 := fg11 _ (vp_lt h_5)
    rw [← ez_5] at fz_5
    have hdez_5 := congrArg Int32.toInt ez_5
    refine lv_iconst (v := (-1)) hx hb dX3_clear_15 (by decide) ?_
    refine lv_icmp_ne (tgt := 23) hx hb dX3_clear_16 (by decide) (fun c_6 => ?_) (fun c_6 => ?_)
    · have c_6 := mt Int32.toInt_inj.mp c_6
      refine lv_iconst (v := 1) hx hb dX3_clear_23 (by decide) ?_
      refine lv_istore_n (lv' := [(2, .int 1), (0, .ref g0), (1, .int p0)]) hx hb dX3_clear_24 rfl hl (by decide) rfl (fun ls hl => ?_)
      refine lv_aload_n hx hb dX3_clear_25 rfl (lv_at hl 1 rfl) ?_
      obtain ⟨k_7, hk_7⟩ := va_plg hg0.1 e_1
      refine va_get (D := (dC, dI)) (ci := 3) (v := .ref s1_1) (C := RX3) (T := TX3) (N := 23) hx hb hts iX3_ hown hK hP k_7 hk_7 rfl 0 (by decide) (hts (.fieldLink RX3 7 "FieldLeavesModel" "slot" "[I") (by decide +kernel)) (fun _ h9 => h9) rfl dX3_clear_26 ?_
      refine lv_iload_n hx hb dX3_clear_29 rfl (lv_at hl 2 rfl) ?_
      refine lv_iconst (v := (-1)) hx hb dX3_clear_30 (by decide) ?_
      obtain ⟨k_8, hk_8⟩ := va_plg fs1_1.1 eg11
      have h_8 : vp_in p0 12 := (vp_in_iff.mpr (by constructor <;> omega))
      have fw_8 := updS (P := fun v => -1 ≤ v.toInt ∧ v.toInt < 6400) (k := Int32.toNatClampNeg p0) (v := (-1)) fg11 (by omega)
      have hD9 := hD
      refine va_iast hx hb hK hP hD hS k_8 0 hk_8 rfl h_8 dX3_clear_31 (fun H locs hP hD hS => ?_)
      have hP : va_P (dC, dI) vwCl (va_pl L (va_up f s1_1 (.inl (kI, 12, .inl (upd fS (Int32.toNatClampNeg p0) (-1)))))) H := by rw [← va_pls hD9 fs1_1.1 hk_8 _]; exact hP
      have hD : va_D A (va_pl L (va_up f s1_1 (.inl (kI, 12, .inl (upd fS (Int32.toNatClampNeg p0) (-1)))))) := by rw [← va_pls hD9 fs1_1.1 hk_8 _]; exact hD
      have hPI := hPI.put (e := .inl (kI, 12, .inl (upd fS (Int32.toNatClampNeg p0) (-1)))) fs1_1 ⟨_, rfl, fw_8⟩
      have es_f_9 : va_up f s1_1 (.inl (kI, 12, .inl (upd fS (Int32.toNatClampNeg p0) (-1)))) s1_1 = .inl (kI, 12, .inl (upd fS (Int32.toNatClampNeg p0) (-1))) := va_up_self _ _ _
      have eq_10 := (va_up_ne f (.inl (kI, 12, .inl (upd fS (Int32.toNatClampNeg p0) (-1)))) (isr_ne hg0 fs1_1 (by decide))).trans e_1
      have eq_11 := (va_up_ne f (.inl (kI, 12, .inl (upd fS (Int32.toNatClampNeg p0) (-1)))) (isr_ne fs2_1 fs1_1 (by decide))).trans eg12
      have eq_12 := (va_up_ne f (.inl (kI, 12, .inl (upd fS (Int32.toNatClampNeg p0) (-1)))) (isr_ne fs3_1 fs1_1 (by decide))).trans eg13
      have eq_13 := (va_up_ne f (.inl (kI, 12, .inl (upd fS (Int32.toNatClampNeg p0) (-1)))) (isr_ne fs4_1 fs1_1 (by decide))).trans eg14
      have eq_14 := (va_up_ne f (.inl (kI, 12, .inl (upd fS (Int32.toNatClampNeg p0) (-1)))) (isr_ne fs5_1 fs1_1 (by decide))).trans eg15
      have eq_15 := (va_up_ne f (.inl (kI, 12, .inl (upd fS (Int32.toNatClampNeg p0) (-1)))) (isr_ne fs8_1 fs1_1 (by decide))).trans eg18
      have eq_16 := (va_up_ne f (.inl (kI, 12, .inl (upd fS (Int32.toNatClampNeg p0) (-1)))) (isr_ne fs9_1 fs1_1 (by decide))).trans eg19
      have eq_17 := (va_up_ne f (.inl (kI, 12, .inl (upd fS (Int32.toNatClampNeg p0) (-1)))) (isr_ne fs10_1 fs1_1 (by decide))).trans eg20
      have hfr := fr_up (S := (sK [11])) (e := .inl (kI, 12, .inl (upd fS (Int32.toNatClampNeg p0) (-1)))) hfr fs1_1 (by decide)
      generalize hg_f_9 : va_up f s1_1 (.inl (kI, 12, .inl (upd fS (Int32.toNatClampNeg p0) (-1)))) = f_9 at hP hD hPI es_f_9 eq_10 eq_11 eq_12 eq_13 eq_14 eq_15 eq_16 eq_17 hfr
      refine lv_iload_n hx hb dX3_clear_32 rfl (lv_at hl 0 rfl) ?_
      exact W.iret (v := 1) hx hb hr (fun t ht hW => ⟨⟨1, (), rfl, (by first | ((try simp only [km1_, k0_, k1_] at c_6); simp only [rs_clear, rw_clear, ← ez_5, ↓hp_3, c_6, km1_, k0_, k1_, ↓reduceIte, and_self, and_true, true_and, and_false, false_and, or_self, or_true, true_or, or_false, false_or, not_true_eq_false, not_false_eq_true, eq_self, Int.reduceLE, Int.reduceLT, Int.reduceEq]; done) | ((try simp only [km1_, k0_, k1_] at c_6); (try simp only [← ez_5, c_6, km1_, k0_, k1_, ↓reduceIte, and_self, and_true, true_and, and_false, false_and, or_self, or_true, true_or, or_false, false_or, not_true_eq_false, not_false_eq_true, eq_self, Int.reduceLE, Int.reduceLT, Int.reduceEq, Classical.not_not] at hp_3); simp only [rs_clear, rw_clear, ← ez_5, hp_3, c_6, km1_, k0_, k1_, ↓reduceIte, and_self, and_true, true_and, and_false, false_and, or_self, or_true, true_or, or_false, false_or, not_true_eq_false, not_false_eq_true, eq_self, Int.reduceLE, Int.reduceLT, Int.reduceEq]; done) | ((try simp only [km1_, k0_, k1_] at c_6); simp only [rs_clear, rw_clear, ← ez_5, ↓hp_3, c_6, km1_, k0_, k1_, ↓reduceIte, and_self, and_true, true_and, and_false, false_and, or_self, or_true, true_or, or_false, false_or, not_true_eq_false, not_false_eq_true, eq_self, Int.reduceLE, Int.reduceLT, Int.reduceEq] <;> (repeat' split) <;> first | with_reducible rfl | with_reducible assumption | (exfalso; omega) | rfl | trivial | assumption) | (simp only [rs_clear, rw_clear, ← ez_5]; done) | (simp only [rs_clear, rw_clear, ← ez_5] <;> (repeat' split) <;> first | (exfalso; omega) | rfl | trivial | assumption) | (simp only [rs_clear, rw_clear, ez_5] <;> (repeat' split) <;> first | (exfalso; omega) | rfl | trivial | assumption | contradiction) | (subst ez_5; simp only [rs_clear, rw_clear] <;> (repeat' split) <;> first | (exfalso; omega) | rfl | trivial | assumption)), f_9, hPI, ⟨hfr, (by rw [show rw_clear fS p0 = (upd fS (Int32.toNatClampNeg p0) (-1)) from (by first | ((try simp only [km1_, k0_, k1_] at c_6); simp only [rs_clear, rw_clear, ← ez_5, ↓hp_3, c_6, km1_, k0_, k1_, ↓reduceIte, and_self, and_true, true_and, and_false, false_and, or_self, or_true, true_or, or_false, false_or, not_true_eq_false, not_false_eq_true, eq_self, Int.reduceLE, Int.reduceLT, Int.reduceEq]; done) | ((try simp only [km1_, k0_, k1_] at c_6); (try simp only [← ez_5, c_6, km1_, k0_, k1_, ↓reduceIte, and_self, and_true, true_and, and_false, false_and, or_self, or_true, true_or, or_false, false_or, not_true_eq_false, not_false_eq_true, eq_self, Int.reduceLE, Int.reduceLT, Int.reduceEq, Classical.not_not] at hp_3); simp only [rs_clear, rw_clear, ← ez_5, hp_3, c_6, km1_, k0_, k1_, ↓reduceIte, and_self, and_true, true_and, and_false, false_and, or_self, or_true, true_or, or_false, false_or, not_true_eq_false, not_false_eq_true, eq_self, Int.reduceLE, Int.reduceLT, Int.reduceEq]; done) | ((try simp only [km1_, k0_, k1_] at c_6); simp only [rs_clear, rw_clear, ← ez_5, ↓hp_3, c_6, km1_, k0_, k1_, ↓reduceIte, and_self, and_true, true_and, and_false, false_and, or_self, or_true, true_or, or_false, false_or, not_true_eq_false, not_false_eq_true, eq_self, Int.reduceLE, Int.reduceLT, Int.reduceEq] <;> (repeat' split) <;> first | with_reducible rfl | with_reducible assumption | (exfalso; omega) | rfl | trivial | assumption) | (simp only [rs_clear, rw_clear, ← ez_5]; done) | (simp only [rs_clear, rw_clear, ← ez_5] <;> (repeat' split) <;> first | (exfalso; omega) | rfl | trivial | assumption) | (simp only [rs_clear, rw_clear, ez_5] <;> (repeat' split) <;> first | (exfalso; omega) | rfl | trivial | assumption | contradiction) | (subst ez_5; simp only [rs_clear, rw_clear] <;> (repeat' split) <;> first | (exfalso; omega) | rfl | trivial | assumption))]; exact ⟨SV.mk hU fs1_1 fs2_1 fs3_1 es_f_9 eq_11 eq_12, ⟨un_row hU fs4_1 eq_13, un_row hU fs5_1 eq_14⟩, ⟨un_row hU fs8_1 eq_15, un_row hU fs9_1 eq_16, un_row hU fs10_1 eq_17⟩, (by rw [eq_10]; rfl), (by rw [eq_10]; rfl)⟩)⟩, by rw [ht]; exact hP, hD⟩, hS.F ht⟩) hS.2.2 dX3_clear_33
    · have c_6 := congrArg Int32.toInt c_6
      refine lv_iconst (v := 0) hx hb dX3_clear_19 (by decide) ?_
      refine lv_goto (tgt := 24) hx hb dX3_clear_20 (by decide) ?_
      refine lv_istore_n (lv' := [(2, .int 0), (0, .ref g0), (1, .int p0)]) hx hb dX3_clear_24 rfl hl (by decide) rfl (fun ls hl => ?_)
      refine lv_aload_n hx hb dX3_clear_25 rfl (lv_at hl 1 rfl) ?_
      obtain ⟨k_18, hk_18⟩ := va_plg hg0.1 e_1
      refine va_get (D := (dC, dI)) (ci := 3) (v := .ref s1_1) (C := RX3) (T := TX3) (N := 23) hx hb hts iX3_ hown hK hP k_18 hk_18 rfl 0 (by decide) (hts (.fieldLink RX3 7 "FieldLeavesModel" "slot" "[I") (by decide +kernel)) (fun _ h9 => h9) rfl dX3_clear_26 ?_
      refine lv_iload_n hx hb dX3_clear_29 rfl (lv_at hl 2 rfl) ?_
      refine lv_iconst (v := (-1)) hx hb dX3_clear_30 (by decide) ?_
      obtain ⟨k_19, hk_19⟩ := va_plg fs1_1.1 eg11
      have h_19 : vp_in p0 12 := (vp_in_iff.mpr (by constructor <;> omega))
      have fw_19 := updS (P := fun v => -1 ≤ v.toInt ∧ v.toInt < 6400) (k := Int32.toNatClampNeg p0) (v := (-1)) fg11 (by omega)
      have hD9 := hD
      refine va_iast hx hb hK hP hD hS k_19 0 hk_19 rfl h_19 dX3_clear_31 (fun H locs hP hD hS => ?_)
      have hP : va_P (dC, dI) vwCl (va_pl L (va_up f s1_1 (.inl (kI, 12, .inl (upd fS (Int32.toNatClampNeg p0) (-1)))))) H := by rw [← va_pls hD9 fs1_1.1 hk_19 _]; exact hP
      have hD : va_D A (va_pl L (va_up f s1_1 (.inl (kI, 12, .inl (upd fS (Int32.toNatClampNeg p0) (-1)))))) := by rw [← va_pls hD9 fs1_1.1 hk_19 _]; exact hD
      have hPI := hPI.put (e := .inl (kI, 12, .inl (upd fS (Int32.toNatClampNeg p0) (-1)))) fs1_1 ⟨_, rfl, fw_19⟩
      have es_f_20 : va_up f s1_1 (.inl (kI, 12, .inl (upd fS (Int32.toNatClampNeg p0) (-1)))) s1_1 = .inl (kI, 12, .inl (upd fS (Int32.toNatClampNeg p0) (-1))) := va_up_self _ _ _
      have eq_21 := (va_up_ne f (.inl (kI, 12, .inl (upd fS (Int32.toNatClampNeg p0) (-1)))) (isr_ne hg0 fs1_1 (by decide))).trans e_1
      have eq_22 := (va_up_ne f (.inl (kI, 12, .inl (upd fS (Int32.toNatClampNeg p0) (-1)))) (isr_ne fs2_1 fs1_1 (by decide))).trans eg12
      have eq_23 := (va_up_ne f (.inl (kI, 12, .inl (upd fS (Int32.toNatClampNeg p0) (-1)))) (isr_ne fs3_1 fs1_1 (by decide))).trans eg13
      have eq_24 := (va_up_ne f (.inl (kI, 12, .inl (upd fS (Int32.toNatClampNeg p0) (-1)))) (isr_ne fs4_1 fs1_1 (by decide))).trans eg14
      have eq_25 := (va_up_ne f (.inl (kI, 12, .inl (upd fS (Int32.toNatClampNeg p0) (-1)))) (isr_ne fs5_1 fs1_1 (by decide))).trans eg15
      have eq_26 := (va_up_ne f (.inl (kI, 12, .inl (upd fS (Int32.toNatClampNeg p0) (-1)))) (isr_ne fs8_1 fs1_1 (by decide))).trans eg18
      have eq_27 := (va_up_ne f (.inl (kI, 12, .inl (upd fS (Int32.toNatClampNeg p0) (-1)))) (isr_ne fs9_1 fs1_1 (by decide))).trans eg19
      have eq_28 := (va_up_ne f (.inl (kI, 12, .inl (upd fS (Int32.toNatClampNeg p0) (-1)))) (isr_ne fs10_1 fs1_1 (by decide))).trans eg20
      have hfr := fr_up (S := (sK [11])) (e := .inl (kI, 12, .inl (upd fS (Int32.toNatClampNeg p0) (-1)))) hfr fs1_1 (by decide)
      generalize hg_f_20 : va_up f s1_1 (.inl (kI, 12, .inl (upd fS (Int32.toNatClampNeg p0) (-1)))) = f_20 at hP hD hPI es_f_20 eq_21 eq_22 eq_23 eq_24 eq_25 eq_26 eq_27 eq_28 hfr
      refine lv_iload_n hx hb dX3_clear_32 rfl (lv_at hl 0 rfl) ?_
      exact W.iret (v := 0) hx hb hr (fun t ht hW => ⟨⟨0, (), rfl, (by first | ((try simp only [km1_, k0_, k1_] at c_6); simp only [rs_clear, rw_clear, ← ez_5, ↓hp_3, c_6, km1_, k0_, k1_, ↓reduceIte, and_self, and_true, true_and, and_false, false_and, or_self, or_true, true_or, or_false, false_or, not_true_eq_false, not_false_eq_true, eq_self, Int.reduceLE, Int.reduceLT, Int.reduceEq]; done) | ((try simp only [km1_, k0_, k1_] at c_6); (try simp only [← ez_5, c_6, km1_, k0_, k1_, ↓reduceIte, and_self, and_true, true_and, and_false, false_and, or_self, or_true, true_or, or_false, false_or, not_true_eq_false, not_false_eq_true, eq_self, Int.reduceLE, Int.reduceLT, Int.reduceEq, Classical.not_not] at hp_3); simp only [rs_clear, rw_clear, ← ez_5, hp_3, c_6, km1_, k0_, k1_, ↓reduceIte, and_self, and_true, true_and, and_false, false_and, or_self, or_true, true_or, or_false, false_or, not_true_eq_false, not_false_eq_true, eq_self, Int.reduceLE, Int.reduceLT, Int.reduceEq]; done) | ((try simp only [km1_, k0_, k1_] at c_6); simp only [rs_clear, rw_clear, ← ez_5, ↓hp_3, c_6, km1_, k0_, k1_, ↓reduceIte, and_self, and_true, true_and, and_false, false_and, or_self, or_true, true_or, or_false, false_or, not_true_eq_false, not_false_eq_true, eq_self, Int.reduceLE, Int.reduceLT, Int.reduceEq] <;> (repeat' split) <;> first | with_reducible rfl | with_reducible assumption | (exfalso; omega) | rfl | trivial | assumption) | (simp only [rs_clear, rw_clear, ← ez_5]; done) | (simp only [rs_clear, rw_clear, ← ez_5] <;> (repeat' split) <;> first | (exfalso; omega) | rfl | trivial | assumption) | (simp only [rs_clear, rw_clear, ez_5] <;> (repeat' split) <;> first | (exfalso; omega) | rfl | trivial | assumption | contradiction) | (subst ez_5; simp only [rs_clear, rw_clear] <;> (repeat' split) <;> first | (exfalso; omega) | rfl | trivial | assumption)), f_20, hPI, ⟨hfr, (by rw [show rw_clear fS p0 = (upd fS (Int32.toNatClampNeg p0) (-1)) from (by first | ((try simp only [km1_, k0_, k1_] at c_6); simp only [rs_clear, rw_clear, ← ez_5, ↓hp_3, c_6, km1_, k0_, k1_, ↓reduceIte, and_self, and_true, true_and, and_false, false_and, or_self, or_true, true_or, or_false, false_or, not_true_eq_false, not_false_eq_true, eq_self, Int.reduceLE, Int.reduceLT, Int.reduceEq]; done) | ((try simp only [km1_, k0_, k1_] at c_6); (try simp only [← ez_5, c_6, km1_, k0_, k1_, ↓reduceIte, and_self, and_true, true_and, and_false, false_and, or_self, or_true, true_or, or_false, false_or, not_true_eq_false, not_false_eq_true, eq_self, Int.reduceLE, Int.reduceLT, Int.reduceEq, Classical.not_not] at hp_3); simp only [rs_clear, rw_clear, ← ez_5, hp_3, c_6, km1_, k0_, k1_, ↓reduceIte, and_self, and_true, true_and, and_false, false_and, or_self, or_true, true_or, or_false, false_or, not_true_eq_false, not_false_eq_true, eq_self, Int.reduceLE, Int.reduceLT, Int.reduceEq]; done) | ((try simp only [km1_, k0_, k1_] at c_6); simp only [rs_clear, rw_clear, ← ez_5, ↓hp_3, c_6, km1_, k0_, k1_, ↓reduceIte, and_self, and_true, true_and, and_false, false_and, or_self, or_true, true_or, or_false, false_or, not_true_eq_false, not_false_eq_true, eq_self, Int.reduceLE, Int.reduceLT, Int.reduceEq] <;> (repeat' split) <;> first | with_reducible rfl | with_reducible assumption | (exfalso; omega) | rfl | trivial | assumption) | (simp only [rs_clear, rw_clear, ← ez_5]; done) | (simp only [rs_clear, rw_clear, ← ez_5] <;> (repeat' split) <;> first | (exfalso; omega) | rfl | trivial | assumption) | (simp only [rs_clear, rw_clear, ez_5] <;> (repeat' split) <;> first | (exfalso; omega) | rfl | trivial | assumption | contradiction) | (subst ez_5; simp only [rs_clear, rw_clear] <;> (repeat' split) <;> first | (exfalso; omega) | rfl | trivial | assumption))]; exact ⟨SV.mk hU fs1_1 fs2_1 fs3_1 es_f_20 eq_22 eq_23, ⟨un_row hU fs4_1 eq_24, un_row hU fs5_1 eq_25⟩, ⟨un_row hU fs8_1 eq_26, un_row hU fs9_1 eq_27, un_row hU fs10_1 eq_28⟩, (by rw [eq_21]; rfl), (by rw [eq_21]; rfl)⟩)⟩, by rw [ht]; exact hP, hD⟩, hS.F ht⟩) hS.2.2 dX3_clear_33
  · refine lv_if_ne (tgt := 9) hx hb dX3_clear_4 (by decide) (fun c9 => absurd c9 (by decide)) (fun _ => ?_)
    refine lv_iconst (v := (-1)) hx hb dX3_clear_7 (by decide) ?_
    exact W.iret (v := (-1)) hx hb hr (fun t ht hW => ⟨⟨(-1), (), rfl, (by first | (simp only [rs_clear, rw_clear, ↓hp_3, km1_, k0_, k1_, ↓reduceIte, and_self, and_true, true_and, and_false, false_and, or_self, or_true, true_or, or_false, false_or, not_true_eq_false, not_false_eq_true, eq_self, Int.reduceLE, Int.reduceLT, Int.reduceEq]; done) | (simp only [rs_clear, rw_clear, ↓hp_3, km1_, k0_, k1_, ↓reduceIte, and_self, and_true, true_and, and_false, false_and, or_self, or_true, true_or, or_false, false_or, not_true_eq_false, not_false_eq_true, eq_self, Int.reduceLE, Int.reduceLT, Int.reduceEq] <;> (repeat' split) <;> first | with_reducible rfl | with_reducible assumption | (exfalso; omega) | rfl | trivial | assumption) | (simp only [rs_clear, rw_clear]; done) | (simp only [rs_clear, rw_clear] <;> (repeat' split) <;> first | (exfalso; omega) | rfl | trivial | assumption) | (simp only [rs_clear, rw_clear] <;> (repeat' split) <;> first | (exfalso; omega) | rfl | trivial | assumption | contradiction)), f, hPI, ⟨hfr, (by rw [show rw_clear fS p0 = fS from (by first | (simp only [rs_clear, rw_clear, ↓hp_3, km1_, k0_, k1_, ↓reduceIte, and_self, and_true, true_and, and_false, false_and, or_self, or_true, true_or, or_false, false_or, not_true_eq_false, not_false_eq_true, eq_self, Int.reduceLE, Int.reduceLT, Int.reduceEq]; done) | (simp only [rs_clear, rw_clear, ↓hp_3, km1_, k0_, k1_, ↓reduceIte, and_self, and_true, true_and, and_false, false_and, or_self, or_true, true_or, or_false, false_or, not_true_eq_false, not_false_eq_true, eq_self, Int.reduceLE, Int.reduceLT, Int.reduceEq] <;> (repeat' split) <;> first | with_reducible rfl | with_reducible assumption | (exfalso; omega) | rfl | trivial | assumption) | (simp only [rs_clear, rw_clear]; done) | (simp only [rs_clear, rw_clear] <;> (repeat' split) <;> first | (exfalso; omega) | rfl | trivial | assumption) | (simp only [rs_clear, rw_clear] <;> (repeat' split) <;> first | (exfalso; omega) | rfl | trivial | assumption | contradiction))]; exact hRV)⟩, by rw [ht]; exact hP, hD⟩, hS.F ht⟩) hS.2.2 dX3_clear_8
set_option maxRecDepth 20000 in
theorem in_v_X3_share_X3 : ∀ w ∈ u_ws RX3 TX3 23, w ∈ wsX3_share := by decide +kernel
set_option maxRecDepth 100000 in
set_option maxHeartbeats 4000000 in
theorem v_X3_share (l : Launch) (dC : Nat → ClassId) (dI : Nat → Nat → Nat) (TT : Nat × Nat × Nat) (sz : Nat) (kI kJ kZ : ClassId) (K : Nat → Nat) (L : List Nat) (f : Nat → va_E) (hPI : PR kI kJ kZ K L f) (g0 : Nat) (hg0 : isr K L 10 g0) (p0 : Int32) (p1 : Int32) (hU : UN K L) (fS fC : Nat → Int32) (fF : Nat → Int64) (fR fW lo ld : Nat → Int32) (lv : Nat → Int64) (lm pa : Int32) (hRV : RV kI kJ K L f g0 fS fC fF fR fW lo ld lv lm pa) : Met l yX3_share wsX3_share ({ frames := 2, cells := 0, slots := 0, locals := 45 } : Room) (va_Pc [.ref g0, .int p0, .int p1] (pr dC dI (va_pl L f) (va_pl L f) [(kI, .int), (kJ, .long), (kZ, .boolean)] sz TT)) (va_Qi (fun (r : Int32) (u : Unit) => r = rs_share p0 p1) (fun (_ : Unit) t => ∃ f2 : Nat → va_E, PR kI kJ kZ K L f2 ∧ (FR (sK [11]) K L f f2 ∧ RV kI kJ K L f2 g0 (rw_share fS p0 p1) fC fF fR fW lo ld lv lm pa) ∧ va_P (dC, dI) vwCl (va_pl L f2) t.heap ∧ va_D (va_A (va_pl L f) sz) (va_pl L f2)) (va_A (va_pl L f) sz)) 0 0 (va_A (va_pl L f) sz) := by
  refine Met.ofW (cc := cX3_share) (maxL := 3) (ret := (some .int)) (by decide) rfl ?_
  intro p e s m args below meth c s₁ B hml hv
  obtain ⟨rfl, hsz, hP, hK, hD0, hst⟩ := hv
  have hx := B.exec
  have hb := B.bytes
  have hr := B.returns
  have hts := atoms_spec (ws := wsX3_share) B.pre
  have hown : s.vm.findClass RX3 = some m.cls := findClass_of_methodNamed B.named
  have hlocks := B.notSynchronized
  have iX3_ := in_v_X3_share_X3
  subst hsz
  have hD := hD0.self (sz := s.heap.size)
  generalize hAe : va_A (va_pl L f) s.heap.size = A at hD hst ⊢
  have hA : ∀ q : Nat, s.heap.size ≤ q → A q := fun q h => by rw [← hAe]; exact Or.inr h
  have hS : va_S A s.heap s.heap [] := va_S.rf
  have hl := lv_entry ([.ref g0, .int p0, .int p1]) (n := 3) (Nat.le_of_ble_eq_true rfl)
  rw [lg_entry_eq]
  generalize (lg_sl ([.ref g0, .int p0, .int p1]) ++ List.replicate (3 - (lg_sl ([.ref g0, .int p0, .int p1])).length) Slot.unset).toArray = ls at hl ⊢
  have hl : lv_has ls 3 [(0, .ref g0), (1, .int p0), (2, .int p1)] := hl
  have km1_ : Int32.toInt (-1) = -1 := by decide
  have k1_ : Int32.toInt 1 = 1 := by decide
  have hfr : FR (sK [11]) K L f f := FR.rf
  (refine hPI.a10E hg0 ?_; intro s1_1 s2_1 s3_1 s4_1 s5_1 s6_1 s7_1 pa_1 lm_1 s8_1 s9_1 s10_1 fm_1 s11_1 nm_1 s12_1 s13_1 s14_1 rm_1 s15_1 s16_1 s17_1 s18_1 e_1 fs1_1 fs2_1 fs3_1 fs4_1 fs5_1 fs6_1 fs7_1 flm_1 fs8_1 fs9_1 fs10_1 ffm_1 fs11_1 fnm_1 fs12_1 fs13_1 fs14_1 frm_1 fs15_1 fs16_1 fs17_1 fs18_1)
  obtain ⟨k_1, hk_1⟩ := va_plg hg0.1 e_1
  have eg11 := hRV.1.1 s1_1 fs1_1
  have fg11 := (hPI.a11 fs1_1).of eg11
  have eg12 := hRV.1.2.1 s2_1 fs2_1
  have fg12 := (hPI.a12 fs2_1).of eg12
  have eg13 := hRV.1.2.2 s3_1 fs3_1
  have fg13 := (hPI.a13 fs3_1).of eg13
  have eg14 := hRV.2.1.1 s4_1 fs4_1
  have fg14 := (hPI.a14 fs4_1).of eg14
  have eg15 := hRV.2.1.2 s5_1 fs5_1
  have fg15 := (hPI.a15 fs5_1).of eg15
  have eg18 := hRV.2.2.1.1 s8_1 fs8_1
  have fg18 := (hPI.a18 fs8_1).of eg18
  have eg19 := hRV.2.2.1.2.1 s9_1 fs9_1
  have fg19 := (hPI.a19 fs9_1).of eg19
  have eg20 := hRV.2.2.1.2.2 s10_1 fs10_1
  have fg20 := (hPI.a20 fs10_1).of eg20
  obtain rfl : lm_1 = lm := (show cI (f g0) 8 = _ from by rw [e_1]; rfl).symm.trans hRV.2.2.2.1
  obtain rfl : pa_1 = pa := (show cI (f g0) 7 = _ from by rw [e_1]; rfl).symm.trans hRV.2.2.2.2
  refine lv_iload_n hx hb dX3_share_0 rfl (lv_at hl 1 rfl) ?_
  refine va_calli (va_runS (As := [.int p0]) (rest := []) ⟨hx, hb, hml, hown, hts⟩ (c_X3_isSlot l dC dI TT s.heap.size p0) (va_cwS 1 hts gX3_share_X3_isSlot rfl rfl rfl (by decide +kernel) ⟨Nat.le_of_ble_eq_true rfl, Nat.le_of_ble_eq_true rfl⟩) (pr_S (ws := []) (wA := []) (tys := []) vp_nil (hK.sub [] rfl) vd_nil hst hS (ro_free hS hA)) rfl rfl hl.1 rfl (lv_room (Nat.le_of_ble_eq_true rfl)) dX3_share_1 ⟨Nat.le_of_ble_eq_true rfl, Nat.le_of_ble_eq_true rfl⟩) hS (fun q _ h => (ro_free hS hA) q h) (ro_free hS hA) (fun r_2 u t H1 locs ht hvm hw hB hz1 hk1 hS => ?_)
  have hP := ro_keep hP hk1
  generalize H1 = H at hP hS ⊢
  rcases hw with ⟨rfl, hp_3⟩ | ⟨rfl, hp_3⟩
  · refine lv_if_eq (tgt := 14) hx hb dX3_share_4 (by decide) (fun c9 => absurd c9 (by decide)) (fun _ => ?_)
    refine lv_iload_n hx hb dX3_share_7 rfl (lv_at hl 2 rfl) ?_
    refine va_calli (va_runS (As := [.int p1]) (rest := []) ⟨hx, hb, hml, hown, hts⟩ (c_X3_isSlot l dC dI TT H.size p1) (va_cwS 1 hts gX3_share_X3_isSlot rfl rfl rfl (by decide +kernel) ⟨Nat.le_of_ble_eq_true rfl, Nat.le_of_ble_eq_true rfl⟩) (pr_S (ws := []) (wA := []) (tys := []) vp_nil (hK.sub [] rfl) vd_nil hst hS (ro_free hS hA)) rfl rfl hl.1 rfl (lv_room (Nat.le_of_ble_eq_true rfl)) dX3_share_8 ⟨Nat.le_of_ble_eq_true rfl, Nat.le_of_ble_eq_true rfl⟩) hS (fun q _ h => (ro_free hS hA) q h) (ro_free hS hA) (fun r_4 u t H1 locs ht hvm hw hB hz1 hk1 hS => ?_)
    have hP := ro_keep hP hk1
    generalize H1 = H at hP hS ⊢
    rcases hw with ⟨rfl, hp_5⟩ | ⟨rfl, hp_5⟩
    · refine lv_if_ne (tgt := 16) hx hb dX3_share_11 (by decide) (fun _ => ?_) (fun c9 => absurd c9 (by decide))
      refine lv_aload_n hx hb dX3_share_16 rfl (lv_at hl 0 rfl) ?_
      obtain ⟨k_6, hk_6⟩ := va_plg hg0.1 e_1
      refine va_get (D := (dC, dI)) (ci := 3) (v := .ref s1_1) (C := RX3) (T := TX3) (N := 23) hx hb hts iX3_ hown hK hP k_6 hk_6 rfl 0 (by decide) (hts (.fieldLink RX3 7 "FieldLeavesModel" "slot" "[I") (by decide +kernel)) (fun _ h9 => h9) rfl dX3_share_17 ?_
      refine lv_iload_n hx hb dX3_share_20 rfl (lv_at hl 2 rfl) ?_
      refine lv_aload_n hx hb dX3_share_21 rfl (lv_at hl 0 rfl) ?_
      obtain ⟨k_7, hk_7⟩ := va_plg hg0.1 e_1
      refine va_get (D := (dC, dI)) (ci := 3) (v := .ref s1_1) (C := RX3) (T := TX3) (N := 23) hx hb hts iX3_ hown hK hP k_7 hk_7 rfl 0 (by decide) (hts (.fieldLink RX3 7 "FieldLeavesModel" "slot" "[I") (by decide +kernel)) (fun _ h9 => h9) rfl dX3_share_22 ?_
      refine lv_iload_n hx hb dX3_share_25 rfl (lv_at hl 1 rfl) ?_
      obtain ⟨k_8, hk_8⟩ := va_plg fs1_1.1 eg11
      have h_8 : vp_in p0 12 := (vp_in_iff.mpr (by constructor <;> omega))
      refine va_iald hx hb hK hP k_8 0 hk_8 rfl h_8 dX3_share_26 ?_
      refine lv_topi (fun z_8 ez_8 => ?_)
      have fz_8 := fg11 _ (vp_lt h_8)
      rw [← ez_8] at fz_8
      have hdez_8 := congrArg Int32.toInt ez_8
      obtain ⟨k_9, hk_9⟩ := va_plg fs1_1.1 eg11
      have h_9 : vp_in p1 12 := (vp_in_iff.mpr (by constructor <;> omega))
      have fw_9 := updS (P := fun v => -1 ≤ v.toInt ∧ v.toInt < 6400) (k := Int32.toNatClampNeg p1) (v := z_8) fg11 (by omega)
      have hD9 := hD
      refine va_iast hx hb hK hP hD hS k_9 0 hk_9 rfl h_9 dX3_share_27 (fun H locs hP hD hS => ?_)
      have hP : va_P (dC, dI) vwCl (va_pl L (va_up f s1_1 (.inl (kI, 12, .inl (upd fS (Int32.toNatClampNeg p1) z_8))))) H := by rw [← va_pls hD9 fs1_1.1 hk_9 _]; exact hP
      have hD : va_D A (va_pl L (va_up f s1_1 (.inl (kI, 12, .inl (upd fS (Int32.toNatClampNeg p1) z_8))))) := by rw [← va_pls hD9 fs1_1.1 hk_9 _]; exact hD
      have hPI := hPI.put (e := .inl (kI, 12, .inl (upd fS (Int32.toNatClampNeg p1) z_8))) fs1_1 ⟨_, rfl, fw_9⟩
      have es_f_10 : va_up f s1_1 (.inl (kI, 12, .inl (upd fS (Int32.toNatClampNeg p1) z_8))) s1_1 = .inl (kI, 12, .inl (upd fS (Int32.toNatClampNeg p1) z_8)) := va_up_self _ _ _
      have eq_11 := (va_up_ne f (.inl (kI, 12, .inl (upd fS (Int32.toNatClampNeg p1) z_8))) (isr_ne hg0 fs1_1 (by decide))).trans e_1
      have eq_12 := (va_up_ne f (.inl (kI, 12, .inl (upd fS (Int32.toNatClampNeg p1) z_8))) (isr_ne fs2_1 fs1_1 (by decide))).trans eg12
      have eq_13 := (va_up_ne f (.inl (kI, 12, .inl (upd fS (Int32.toNatClampNeg p1) z_8))) (isr_ne fs3_1 fs1_1 (by decide))).trans eg13
      have eq_14 := (va_up_ne f (.inl (kI, 12, .inl (upd fS (Int32.toNatClampNeg p1) z_8))) (isr_ne fs4_1 fs1_1 (by decide))).trans eg14
      have eq_15 := (va_up_ne f (.inl (kI, 12, .inl (upd fS (Int32.toNatClampNeg p1) z_8))) (isr_ne fs5_1 fs1_1 (by decide))).trans eg15
      have eq_16 := (va_up_ne f (.inl (kI, 12, .inl (upd fS (Int32.toNatClampNeg p1) z_8))) (isr_ne fs8_1 fs1_1 (by decide))).trans eg18
      have eq_17 := (va_up_ne f (.inl (kI, 12, .inl (upd fS (Int32.toNatClampNeg p1) z_8))) (isr_ne fs9_1 fs1_1 (by decide))).trans eg19
      have eq_18 := (va_up_ne f (.inl (kI, 12, .inl (upd fS (Int32.toNatClampNeg p1) z_8))) (isr_ne fs10_1 fs1_1 (by decide))).trans eg20
      have hfr := fr_up (S := (sK [11])) (e := .inl (kI, 12, .inl (upd fS (Int32.toNatClampNeg p1) z_8))) hfr fs1_1 (by decide)
      generalize hg_f_10 : va_up f s1_1 (.inl (kI, 12, .inl (upd fS (Int32.toNatClampNeg p1) z_8))) = f_10 at hP hD hPI es_f_10 eq_11 eq_12 eq_13 eq_14 eq_15 eq_16 eq_17 eq_18 hfr
      refine lv_iconst (v := 1) hx hb dX3_share_28 (by decide) ?_
      exact W.iret (v := 1) hx hb hr (fun t ht hW => ⟨⟨1, (), rfl, (by first | (simp only [rs_share, rw_share, ← ez_8, ↓hp_3, ↓hp_5, km1_, k1_, ↓reduceIte, and_self, and_true, true_and, and_false, false_and, or_self, or_true, true_or, or_false, false_or, not_true_eq_false, not_false_eq_true, eq_self, Int.reduceLE, Int.reduceLT, Int.reduceEq]; done) | (simp only [rs_share, rw_share, ← ez_8, ↓hp_3, ↓hp_5, km1_, k1_, ↓reduceIte, and_self, and_true, true_and, and_false, false_and, or_self, or_true, true_or, or_false, false_or, not_true_eq_false, not_false_eq_true, eq_self, Int.reduceLE, Int.reduceLT, Int.reduceEq] <;> (repeat' split) <;> first | with_reducible rfl | with_reducible assumption | (exfalso; omega) | rfl | trivial | assumption) | (simp only [rs_share, rw_share, ← ez_8]; done) | (simp only [rs_share, rw_share, ← ez_8] <;> (repeat' split) <;> first | (exfalso; omega) | rfl | trivial | assumption) | (simp only [rs_share, rw_share, ez_8] <;> (repeat' split) <;> first | (exfalso; omega) | rfl | trivial | assumption | contradiction) | (subst ez_8; simp only [rs_share, rw_share] <;> (repeat' split) <;> first | (exfalso; omega) | rfl | trivial | assumption)), f_10, hPI, ⟨hfr, (by rw [show rw_share fS p0 p1 = (upd fS (Int32.toNatClampNeg p1) z_8) from (by first | (simp only [rs_share, rw_share, ← ez_8, ↓hp_3, ↓hp_5, km1_, k1_, ↓reduceIte, and_self, and_true, true_and, and_false, false_and, or_self, or_true, true_or, or_false, false_or, not_true_eq_false, not_false_eq_true, eq_self, Int.reduceLE, Int.reduceLT, Int.reduceEq]; done) | (simp only [rs_share, rw_share, ← ez_8, ↓hp_3, ↓hp_5, km1_, k1_, ↓reduceIte, and_self, and_true, true_and, and_false, false_and, or_self, or_true, true_or, or_false, false_or, not_true_eq_false, not_false_eq_true, eq_self, Int.reduceLE, Int.reduceLT, Int.reduceEq] <;> (repeat' split) <;> first | with_reducible rfl | with_reducible assumption | (exfalso; omega) | rfl | trivial | assumption) | (simp only [rs_share, rw_share, ← ez_8]; done) | (simp only [rs_share, rw_share, ← ez_8] <;> (repeat' split) <;> first | (exfalso; omega) | rfl | trivial | assumption) | (simp only [rs_share, rw_share, ez_8] <;> (repeat' split) <;> first | (exfalso; omega) | rfl | trivial | assumption | contradiction) | (subst ez_8; simp only [rs_share, rw_share] <;> (repeat' split) <;> first | (exfalso; omega) | rfl | trivial | assumption))]; exact ⟨SV.mk hU fs1_1 fs2_1 fs3_1 es_f_10 eq_12 eq_13, ⟨un_row hU fs4_1 eq_14, un_row hU fs5_1 eq_15⟩, ⟨un_row hU fs8_1 eq_16, un_row hU fs9_1 eq_17, un_row hU fs10_1 eq_18⟩, (by rw [eq_11]; rfl), (by rw [eq_11]; rfl)⟩)⟩, by rw [ht]; exact hP, hD⟩, hS.F ht⟩) hS.2.2 dX3_share_29
    · refine lv_if_ne (tgt := 16) hx hb dX3_share_11 (by decide) (fun c9 => absurd c9 (by decide)) (fun _ => ?_)
      refine lv_iconst (v := (-1)) hx hb dX3_share_14 (by decide) ?_
      exact W.iret (v := (-1)) hx hb hr (fun t ht hW => ⟨⟨(-1), (), rfl, (by first | (simp only [rs_share, rw_share, ↓hp_3, ↓hp_5, km1_, k1_, ↓reduceIte, and_self, and_true, true_and, and_false, false_and, or_self, or_true, true_or, or_false, false_or, not_true_eq_false, not_false_eq_true, eq_self, Int.reduceLE, Int.reduceLT, Int.reduceEq]; done) | (simp only [rs_share, rw_share, ↓hp_3, ↓hp_5, km1_, k1_, ↓reduceIte, and_self, and_true, true_and, and_false, false_and, or_self, or_true, true_or, or_false, false_or, not_true_eq_false, not_false_eq_true, eq_self, Int.reduceLE, Int.reduceLT, Int.reduceEq] <;> (repeat' split) <;> first | with_reducible rfl | with_reducible assumption | (exfalso; omega) | rfl | trivial | assumption) | (simp only [rs_share, rw_share]; done) | (simp only [rs_share, rw_share] <;> (repeat' split) <;> first | (exfalso; omega) | rfl | trivial | assumption) | (simp only [rs_share, rw_share] <;> (repeat' split) <;> first | (exfalso; omega) | rfl | trivial | assumption | contradiction)), f, hPI, ⟨hfr, (by rw [show rw_share fS p0 p1 = fS from (by first | (simp only [rs_share, rw_share, ↓hp_3, ↓hp_5, km1_, k1_, ↓reduceIte, and_self, and_true, true_and, and_false, false_and, or_self, or_true, true_or, or_false, false_or, not_true_eq_false, not_false_eq_true, eq_self, Int.reduceLE, Int.reduceLT, Int.reduceEq]; done) | (simp only [rs_share, rw_share, ↓hp_3, ↓hp_5, km1_, k1_, ↓reduceIte, and_self, and_true, true_and, and_false, false_and, or_self, or_true, true_or, or_false, false_or, not_true_eq_false, not_false_eq_true, eq_self, Int.reduceLE, Int.reduceLT, Int.reduceEq] <;> (repeat' split) <;> first | with_reducible rfl | with_reducible assumption | (exfalso; omega) | rfl | trivial | assumption) | (simp only [rs_share, rw_share]; done) | (simp only [rs_share, rw_share] <;> (repeat' split) <;> first | (exfalso; omega) | rfl | trivial | assumption) | (simp only [rs_share, rw_share] <;> (repeat' split) <;> first | (exfalso; omega) | rfl | trivial | assumption | contradiction))]; exact hRV)⟩, by rw [ht]; exact hP, hD⟩, hS.F ht⟩) hS.2.2 dX3_share_15
  · refine lv_if_eq (tgt := 14) hx hb dX3_share_4 (by decide) (fun _ => ?_) (fun c9 => absurd c9 (by decide))
    refine lv_iconst (v := (-1)) hx hb dX3_share_14 (by decide) ?_
    exact W.iret (v := (-1)) hx hb hr (fun t ht hW => ⟨⟨(-1), (), rfl, (by first | (simp only [rs_share, rw_share, ↓hp_3, km1_, k1_, ↓reduceIte, and_self, and_true, true_and, and_false, false_and, or_self, or_true, true_or, or_false, false_or, not_true_eq_false, not_false_eq_true, eq_self, Int.reduceLE, Int.reduceLT, Int.reduceEq]; done) | (simp only [rs_share, rw_share, ↓hp_3, km1_, k1_, ↓reduceIte, and_self, and_true, true_and, and_false, false_and, or_self, or_true, true_or, or_false, false_or, not_true_eq_false, not_false_eq_true, eq_self, Int.reduceLE, Int.reduceLT, Int.reduceEq] <;> (repeat' split) <;> first | with_reducible rfl | with_reducible assumption | (exfalso; omega) | rfl | trivial | assumption) | (simp only [rs_share, rw_share]; done) | (simp only [rs_share, rw_share] <;> (repeat' split) <;> first | (exfalso; omega) | rfl | trivial | assumption) | (simp only [rs_share, rw_share] <;> (repeat' split) <;> first | (exfalso; omega) | rfl | trivial | assumption | contradiction)), f, hPI, ⟨hfr, (by rw [show rw_share fS p0 p1 = fS from (by first | (simp only [rs_share, rw_share, ↓hp_3, km1_, k1_, ↓reduceIte, and_self, and_true, true_and, and_false, false_and, or_self, or_true, true_or, or_false, false_or, not_true_eq_false, not_false_eq_true, eq_self, Int.reduceLE, Int.reduceLT, Int.reduceEq]; done) | (simp only [rs_share, rw_share, ↓hp_3, km1_, k1_, ↓reduceIte, and_self, and_true, true_and, and_false, false_and, or_self, or_true, true_or, or_false, false_or, not_true_eq_false, not_false_eq_true, eq_self, Int.reduceLE, Int.reduceLT, Int.reduceEq] <;> (repeat' split) <;> first | with_reducible rfl | with_reducible assumption | (exfalso; omega) | rfl | trivial | assumption) | (simp only [rs_share, rw_share]; done) | (simp only [rs_share, rw_share] <;> (repeat' split) <;> first | (exfalso; omega) | rfl | trivial | assumption) | (simp only [rs_share, rw_share] <;> (repeat' split) <;> first | (exfalso; omega) | rfl | trivial | assumption | contradiction))]; exact hRV)⟩, by rw [ht]; exact hP, hD⟩, hS.F ht⟩) hS.2.2 dX3_share_15
set_option maxRecDepth 20000 in
theorem in_v_X3_set_X3 : ∀ w ∈ u_ws RX3 TX3 23, w ∈ wsX3_set := by decide +kernel
set_option maxRecDepth 100000 in
set_option maxHeartbeats 4000000 in
theorem v_X3_set (l : Launch) (dC : Nat → ClassId) (dI : Nat → Nat → Nat) (TT : Nat × Nat × Nat) (sz : Nat) (kI kJ kZ : ClassId) (K : Nat → Nat) (L : List Nat) (f : Nat → va_E) (hPI : PR kI kJ kZ K L f) (g0 : Nat) (hg0 : isr K L 10 g0) (p0 : Int32) (p1 : Int32) (p2 : Int64) (hU : UN K L) (fS fC : Nat → Int32) (fF : Nat → Int64) (fR fW lo ld : Nat → Int32) (lv : Nat → Int64) (lm pa : Int32) (hRV : RV kI kJ K L f g0 fS fC fF fR fW lo ld lv lm pa) : Met l yX3_set wsX3_set ({ frames := 2, cells := 0, slots := 0, locals := 45 } : Room) (va_Pc [.ref g0, .int p0, .int p1, .long p2] (pr dC dI (va_pl L f) (va_pl L f) [(kI, .int), (kJ, .long), (kZ, .boolean)] sz TT)) (va_Qi (fun (r : Int32) (u : Unit) => r = rs_set fS fC p0 p1) (fun (_ : Unit) t => ∃ f2 : Nat → va_E, PR kI kJ kZ K L f2 ∧ (FR (sK [13]) K L f f2 ∧ RV kI kJ K L f2 g0 fS fC (rw_set fS fC fF p0 p1 p2) fR fW lo ld lv lm pa) ∧ va_P (dC, dI) vwCl (va_pl L f2) t.heap ∧ va_D (va_A (va_pl L f) sz) (va_pl L f2)) (va_A (va_pl L f) sz)) 0 0 (va_A (va_pl L f) sz) := by
  refine Met.ofW (cc := cX3_set) (maxL := 5) (ret := (some .int)) (by decide) rfl ?_
  intro p e s m args below meth c s₁ B hml hv
  obtain ⟨rfl, hsz, hP, hK, hD0, hst⟩ := hv
  have hx := B.exec
  have hb := B.bytes
  have hr := B.returns
  have hts := atoms_spec (ws := wsX3_set) B.pre
  have hown : s.vm.findClass RX3 = some m.cls := findClass_of_methodNamed B.named
  have hlocks := B.notSynchronized
  have iX3_ := in_v_X3_set_X3
  subst hsz
  have hD := hD0.self (sz := s.heap.size)
  generalize hAe : va_A (va_pl L f) s.heap.size = A at hD hst ⊢
  have hA : ∀ q : Nat, s.heap.size ≤ q → A q := fun q h => by rw [← hAe]; exact Or.inr h
  have hS : va_S A s.heap s.heap [] := va_S.rf
  have hl := lv_entry ([.ref g0, .int p0, .int p1, .long p2]) (n := 5) (Nat.le_of_ble_eq_true rfl)
  rw [lg_entry_eq]
  generalize (lg_sl ([.ref g0, .int p0, .int p1, .long p2]) ++ List.replicate (5 - (lg_sl ([.ref g0, .int p0, .int p1, .long p2])).length) Slot.unset).toArray = ls at hl ⊢
  have hl : lv_has ls 5 [(0, .ref g0), (1, .int p0), (2, .int p1), (3, .long p2)] := hl
  have km17_ : Int32.toInt (-17) = -17 := by decide
  have km14_ : Int32.toInt (-14) = -14 := by decide
  have km11_ : Int32.toInt (-11) = -11 := by decide
  have km1_ : Int32.toInt (-1) = -1 := by decide
  have k1_ : Int32.toInt 1 = 1 := by decide
  have k13_ : Int32.toInt 13 = 13 := by decide
  have k16_ : Int32.toInt 16 = 16 := by decide
  have hfr : FR (sK [13]) K L f f := FR.rf
  (refine hPI.a10E hg0 ?_; intro s1_1 s2_1 s3_1 s4_1 s5_1 s6_1 s7_1 pa_1 lm_1 s8_1 s9_1 s10_1 fm_1 s11_1 nm_1 s12_1 s13_1 s14_1 rm_1 s15_1 s16_1 s17_1 s18_1 e_1 fs1_1 fs2_1 fs3_1 fs4_1 fs5_1 fs6_1 fs7_1 flm_1 fs8_1 fs9_1 fs10_1 ffm_1 fs11_1 fnm_1 fs12_1 fs13_1 fs14_1 frm_1 fs15_1 fs16_1 fs17_1 fs18_1)
  obtain ⟨k_1, hk_1⟩ := va_plg hg0.1 e_1
  have eg11 := hRV.1.1 s1_1 fs1_1
  have fg11 := (hPI.a11 fs1_1).of eg11
  have eg12 := hRV.1.2.1 s2_1 fs2_1
  have fg12 := (hPI.a12 fs2_1).of eg12
  have eg13 := hRV.1.2.2 s3_1 fs3_1
  have fg13 := (hPI.a13 fs3_1).of eg13
  have eg14 := hRV.2.1.1 s4_1 fs4_1
  have fg14 := (hPI.a14 fs4_1).of eg14
  have eg15 := hRV.2.1.2 s5_1 fs5_1
  have fg15 := (hPI.a15 fs5_1).of eg15
  have eg18 := hRV.2.2.1.1 s8_1 fs8_1
  have fg18 := (hPI.a18 fs8_1).of eg18
  have eg19 := hRV.2.2.1.2.1 s9_1 fs9_1
  have fg19 := (hPI.a19 fs9_1).of eg19
  have eg20 := hRV.2.2.1.2.2 s10_1 fs10_1
  have fg20 := (hPI.a20 fs10_1).of eg20
  obtain rfl : lm_1 = lm := (show cI (f g0) 8 = _ from by rw [e_1]; rfl).symm.trans hRV.2.2.2.1
  obtain rfl : pa_1 = pa := (show cI (f g0) 7 = _ from by rw [e_1]; rfl).symm.trans hRV.2.2.2.2
  refine lv_iload_n hx hb dX3_set_0 rfl (lv_at hl 1 rfl) ?_
  refine va_calli (va_runS (As := [.int p0]) (rest := []) ⟨hx, hb, hml, hown, hts⟩ (c_X3_isSlot l dC dI TT s.heap.size p0) (va_cwS 1 hts gX3_set_X3_isSlot rfl rfl rfl (by decide +kernel) ⟨Nat.le_of_ble_eq_true rfl, Nat.le_of_ble_eq_true rfl⟩) (pr_S (ws := []) (wA := []) (tys := []) vp_nil (hK.sub [] rfl) vd_nil hst hS (ro_free hS hA)) rfl rfl hl.1 rfl (lv_room (Nat.le_of_ble_eq_true rfl)) dX3_set_1 ⟨Nat.le_of_ble_eq_true rfl, Nat.le_of_ble_eq_true rfl⟩) hS (fun q _ h => (ro_free hS hA) q h) (ro_free hS hA) (fun r_2 u t H1 locs ht hvm hw hB hz1 hk1 hS => ?_)
  have hP := ro_keep hP hk1
  generalize H1 = H at hP hS ⊢
  rcases hw with ⟨rfl, hp_3⟩ | ⟨rfl, hp_3⟩
  · refine lv_if_eq (tgt := 14) hx hb dX3_set_4 (by decide) (fun c9 => absurd c9 (by decide)) (fun _ => ?_)
    refine lv_iload_n hx hb dX3_set_7 rfl (lv_at hl 2 rfl) ?_
    refine va_calli (va_runS (As := [.int p1]) (rest := []) ⟨hx, hb, hml, hown, hts⟩ (c_X3_isPlain l dC dI TT H.size p1) (va_cwS 1 hts gX3_set_X3_isPlain rfl rfl rfl (by decide +kernel) ⟨Nat.le_of_ble_eq_true rfl, Nat.le_of_ble_eq_true rfl⟩) (pr_S (ws := []) (wA := []) (tys := []) vp_nil (hK.sub [] rfl) vd_nil hst hS (ro_free hS hA)) rfl rfl hl.1 rfl (lv_room (Nat.le_of_ble_eq_true rfl)) dX3_set_8 ⟨Nat.le_of_ble_eq_true rfl, Nat.le_of_ble_eq_true rfl⟩) hS (fun q _ h => (ro_free hS hA) q h) (ro_free hS hA) (fun r_4 u t H1 locs ht hvm hw hB hz1 hk1 hS => ?_)
    have hP := ro_keep hP hk1
    generalize H1 = H at hP hS ⊢
    rcases hw with ⟨rfl, hp_5⟩ | ⟨rfl, hp_5⟩
    · refine lv_if_ne (tgt := 16) hx hb dX3_set_11 (by decide) (fun _ => ?_) (fun c9 => absurd c9 (by decide))
      refine lv_aload_n hx hb dX3_set_16 rfl (lv_at hl 0 rfl) ?_
      refine lv_iload_n hx hb dX3_set_17 rfl (lv_at hl 1 rfl) ?_
      refine lv_iload_n hx hb dX3_set_18 rfl (lv_at hl 2 rfl) ?_
      obtain ⟨k_6, hk_6⟩ := va_plg hg0.1 e_1
      refine va_calli (va_runV (b := g0) (As := [.int p0, .int p1]) (rest := []) ⟨hx, hb, hml, hown, hts⟩ (v_X3_isOther l dC dI TT H.size kI kJ kZ K L f hPI g0 hg0 p0 p1 (by constructor <;> omega) hU fS fC fF fR fW lo ld lv lm_1 pa_1 hRV) (cwV 2 hts gX3_set_X3_isOther rfl rfl rfl (by decide +kernel) ⟨Nat.le_of_ble_eq_true rfl, Nat.le_of_ble_eq_true rfl⟩) ⟨pr_blind, va_recv hK hP (ci := 3) rfl hk_6, (pr_S (ws := va_pl L f) (wA := []) (tys := [(kI, .int), (kJ, .long), (kZ, .boolean)]) hP hK vd_nil hst hS (ro_free hS hA)).2⟩ rfl rfl hl.1 rfl (lv_room (Nat.le_of_ble_eq_true rfl)) dX3_set_19 ⟨Nat.le_of_ble_eq_true rfl, Nat.le_of_ble_eq_true rfl⟩) hS (fun q _ h => (ro_free hS hA) q h) (ro_free hS hA) (fun r_7 u t H1 locs ht hvm hw hB hz1 hk1 hS => ?_)
      have hP := ro_keep hP hk1
      generalize H1 = H at hP hS ⊢
      rcases hw with ⟨rfl, hp_8⟩ | ⟨rfl, hp_8⟩
      · refine lv_if_ne (tgt := 35) hx hb dX3_set_22 (by decide) (fun _ => ?_) (fun c9 => absurd c9 (by decide))
        refine lv_aload_n hx hb dX3_set_35 rfl (lv_at hl 0 rfl) ?_
        obtain ⟨k_9, hk_9⟩ := va_plg hg0.1 e_1
        refine va_get (D := (dC, dI)) (ci := 3) (v := .ref s1_1) (C := RX3) (T := TX3) (N := 23) hx hb hts iX3_ hown hK hP k_9 hk_9 rfl 0 (by decide) (hts (.fieldLink RX3 7 "FieldLeavesModel" "slot" "[I") (by decide +kernel)) (fun _ h9 => h9) rfl dX3_set_36 ?_
        refine lv_iload_n hx hb dX3_set_39 rfl (lv_at hl 1 rfl) ?_
        obtain ⟨k_10, hk_10⟩ := va_plg fs1_1.1 eg11
        have h_10 : vp_in p0 12 := (vp_in_iff.mpr (by constructor <;> omega))
        refine va_iald hx hb hK hP k_10 0 hk_10 rfl h_10 dX3_set_40 ?_
        refine lv_topi (fun z_10 ez_10 => ?_)
        have fz_10 := fg11 _ (vp_lt h_10)
        rw [← ez_10] at fz_10
        have hdez_10 := congrArg Int32.toInt ez_10
        refine lv_iconst (v := (-1)) hx hb dX3_set_41 (by decide) ?_
        refine lv_icmp_ne (tgt := 50) hx hb dX3_set_42 (by decide) (fun c_11 => ?_) (fun c_11 => ?_)
        · have c_11 := mt Int32.toInt_inj.mp c_11
          refine lv_bipush (v := (-14)) hx hb dX3_set_50 (by decide) ?_
          exact W.iret (v := (-14)) hx hb hr (fun t ht hW => ⟨⟨(-14), (), rfl, (by first | ((try simp only [km17_, km14_, km11_, km1_, k1_, k13_, k16_] at c_11); simp only [rs_set, rw_set, ← ez_10, ↓hp_3, ↓hp_5, ↓hp_8, c_11, km17_, km14_, km11_, km1_, k1_, k13_, k16_, ↓reduceIte, and_self, and_true, true_and, and_false, false_and, or_self, or_true, true_or, or_false, false_or, not_true_eq_false, not_false_eq_true, eq_self, Int.reduceLE, Int.reduceLT, Int.reduceEq]; done) | ((try simp only [km17_, km14_, km11_, km1_, k1_, k13_, k16_] at c_11); (try simp only [← ez_10, c_11, km17_, km14_, km11_, km1_, k1_, k13_, k16_, ↓reduceIte, and_self, and_true, true_and, and_false, false_and, or_self, or_true, true_or, or_false, false_or, not_true_eq_false, not_false_eq_true, eq_self, Int.reduceLE, Int.reduceLT, Int.reduceEq, Classical.not_not] at hp_3 hp_5 hp_8); simp only [rs_set, rw_set, ← ez_10, hp_3, hp_5, hp_8, c_11, km17_, km14_, km11_, km1_, k1_, k13_, k16_, ↓reduceIte, and_self, and_true, true_and, and_false, false_and, or_self, or_true, true_or, or_false, false_or, not_true_eq_false, not_false_eq_true, eq_self, Int.reduceLE, Int.reduceLT, Int.reduceEq]; done) | ((try simp only [km17_, km14_, km11_, km1_, k1_, k13_, k16_] at c_11); simp only [rs_set, rw_set, ← ez_10, ↓hp_3, ↓hp_5, ↓hp_8, c_11, km17_, km14_, km11_, km1_, k1_, k13_, k16_, ↓reduceIte, and_self, and_true, true_and, and_false, false_and, or_self, or_true, true_or, or_false, false_or, not_true_eq_false, not_false_eq_true, eq_self, Int.reduceLE, Int.reduceLT, Int.reduceEq] <;> (repeat' split) <;> first | with_reducible rfl | with_reducible assumption | (exfalso; omega) | rfl | trivial | assumption) | (simp only [rs_set, rw_set, ← ez_10]; done) | (simp only [rs_set, rw_set, ← ez_10] <;> (repeat' split) <;> first | (exfalso; omega) | rfl | trivial | assumption) | (simp only [rs_set, rw_set, ez_10] <;> (repeat' split) <;> first | (exfalso; omega) | rfl | trivial | assumption | contradiction) | (subst ez_10; simp only [rs_set, rw_set] <;> (repeat' split) <;> first | (exfalso; omega) | rfl | trivial | assumption)), f, hPI, ⟨hfr, (by rw [show rw_set fS fC fF p0 p1 p2 = fF from (by first | ((try simp only [km17_, km14_, km11_, km1_, k1_, k13_, k16_] at c_11); simp only [rs_set, rw_set, ← ez_10, ↓hp_3, ↓hp_5, ↓hp_8, c_11, km17_, km14_, km11_, km1_, k1_, k13_, k16_, ↓reduceIte, and_self, and_true, true_and, and_false, false_and, or_self, or_true, true_or, or_false, false_or, not_true_eq_false, not_false_eq_true, eq_self, Int.reduceLE, Int.reduceLT, Int.reduceEq]; done) | ((try simp only [km17_, km14_, km11_, km1_, k1_, k13_, k16_] at c_11); (try simp only [← ez_10, c_11, km17_, km14_, km11_, km1_, k1_, k13_, k16_, ↓reduceIte, and_self, and_true, true_and, and_false, false_and, or_self, or_true, true_or, or_false, false_or, not_true_eq_false, not_false_eq_true, eq_self, Int.reduceLE, Int.reduceLT, Int.reduceEq, Classical.not_not] at hp_3 hp_5 hp_8); simp only [rs_set, rw_set, ← ez_10, hp_3, hp_5, hp_8, c_11, km17_, km14_, km11_, km1_, k1_, k13_, k16_, ↓reduceIte, and_self, and_true, true_and, and_false, false_and, or_self, or_true, true_or, or_false, false_or, not_true_eq_false, not_false_eq_true, eq_self, Int.reduceLE, Int.reduceLT, Int.reduceEq]; done) | ((try simp only [km17_, km14_, km11_, km1_, k1_, k13_, k16_] at c_11); simp only [rs_set, rw_set, ← ez_10, ↓hp_3, ↓hp_5, ↓hp_8, c_11, km17_, km14_, km11_, km1_, k1_, k13_, k16_, ↓reduceIte, and_self, and_true, true_and, and_false, false_and, or_self, or_true, true_or, or_false, false_or, not_true_eq_false, not_false_eq_true, eq_self, Int.reduceLE, Int.reduceLT, Int.reduceEq] <;> (repeat' split) <;> first | with_reducible rfl | with_reducible assumption | (exfalso; omega) | rfl | trivial | assumption) | (simp only [rs_set, rw_set, ← ez_10]; done) | (simp only [rs_set, rw_set, ← ez_10] <;> (repeat' split) <;> first | (exfalso; omega) | rfl | trivial | assumption) | (simp only [rs_set, rw_set, ez_10] <;> (repeat' split) <;> first | (exfalso; omega) | rfl | trivial | assumption | contradiction) | (subst ez_10; simp only [rs_set, rw_set] <;> (repeat' split) <;> first | (exfalso; omega) | rfl | trivial | assumption))]; exact hRV)⟩, by rw [ht]; exact hP, hD⟩, hS.F ht⟩) hS.2.2 dX3_set_52
        · have c_11 := congrArg Int32.toInt c_11
          refine lv_bipush (v := (-11)) hx hb dX3_set_45 (by decide) ?_
          refine lv_goto (tgt := 52) hx hb dX3_set_47 (by decide) ?_
          exact W.iret (v := (-11)) hx hb hr (fun t ht hW => ⟨⟨(-11), (), rfl, (by first | ((try simp only [km17_, km14_, km11_, km1_, k1_, k13_, k16_] at c_11); simp only [rs_set, rw_set, ← ez_10, ↓hp_3, ↓hp_5, ↓hp_8, c_11, km17_, km14_, km11_, km1_, k1_, k13_, k16_, ↓reduceIte, and_self, and_true, true_and, and_false, false_and, or_self, or_true, true_or, or_false, false_or, not_true_eq_false, not_false_eq_true, eq_self, Int.reduceLE, Int.reduceLT, Int.reduceEq]; done) | ((try simp only [km17_, km14_, km11_, km1_, k1_, k13_, k16_] at c_11); (try simp only [← ez_10, c_11, km17_, km14_, km11_, km1_, k1_, k13_, k16_, ↓reduceIte, and_self, and_true, true_and, and_false, false_and, or_self, or_true, true_or, or_false, false_or, not_true_eq_false, not_false_eq_true, eq_self, Int.reduceLE, Int.reduceLT, Int.reduceEq, Classical.not_not] at hp_3 hp_5 hp_8); simp only [rs_set, rw_set, ← ez_10, hp_3, hp_5, hp_8, c_11, km17_, km14_, km11_, km1_, k1_, k13_, k16_, ↓reduceIte, and_self, and_true, true_and, and_false, false_and, or_self, or_true, true_or, or_false, false_or, not_true_eq_false, not_false_eq_true, eq_self, Int.reduceLE, Int.reduceLT, Int.reduceEq]; done) | ((try simp only [km17_, km14_, km11_, km1_, k1_, k13_, k16_] at c_11); simp only [rs_set, rw_set, ← ez_10, ↓hp_3, ↓hp_5, ↓hp_8, c_11, km17_, km14_, km11_, km1_, k1_, k13_, k16_, ↓reduceIte, and_self, and_true, true_and, and_false, false_and, or_self, or_true, true_or, or_false, false_or, not_true_eq_false, not_false_eq_true, eq_self, Int.reduceLE, Int.reduceLT, Int.reduceEq] <;> (repeat' split) <;> first | with_reducible rfl | with_reducible assumption | (exfalso; omega) | rfl | trivial | assumption) | (simp only [rs_set, rw_set, ← ez_10]; done) | (simp only [rs_set, rw_set, ← ez_10] <;> (repeat' split) <;> first | (exfalso; omega) | rfl | trivial | assumption) | (simp only [rs_set, rw_set, ez_10] <;> (repeat' split) <;> first | (exfalso; omega) | rfl | trivial | assumption | contradiction) | (subst ez_10; simp only [rs_set, rw_set] <;> (repeat' split) <;> first | (exfalso; omega) | rfl | trivial | assumption)), f, hPI, ⟨hfr, (by rw [show rw_set fS fC fF p0 p1 p2 = fF from (by first | ((try simp only [km17_, km14_, km11_, km1_, k1_, k13_, k16_] at c_11); simp only [rs_set, rw_set, ← ez_10, ↓hp_3, ↓hp_5, ↓hp_8, c_11, km17_, km14_, km11_, km1_, k1_, k13_, k16_, ↓reduceIte, and_self, and_true, true_and, and_false, false_and, or_self, or_true, true_or, or_false, false_or, not_true_eq_false, not_false_eq_true, eq_self, Int.reduceLE, Int.reduceLT, Int.reduceEq]; done) | ((try simp only [km17_, km14_, km11_, km1_, k1_, k13_, k16_] at c_11); (try simp only [← ez_10, c_11, km17_, km14_, km11_, km1_, k1_, k13_, k16_, ↓reduceIte, and_self, and_true, true_and, and_false, false_and, or_self, or_true, true_or, or_false, false_or, not_true_eq_false, not_false_eq_true, eq_self, Int.reduceLE, Int.reduceLT, Int.reduceEq, Classical.not_not] at hp_3 hp_5 hp_8); simp only [rs_set, rw_set, ← ez_10, hp_3, hp_5, hp_8, c_11, km17_, km14_, km11_, km1_, k1_, k13_, k16_, ↓reduceIte, and_self, and_true, true_and, and_false, false_and, or_self, or_true, true_or, or_false, false_or, not_true_eq_false, not_false_eq_true, eq_self, Int.reduceLE, Int.reduceLT, Int.reduceEq]; done) | ((try simp only [km17_, km14_, km11_, km1_, k1_, k13_, k16_] at c_11); simp only [rs_set, rw_set, ← ez_10, ↓hp_3, ↓hp_5, ↓hp_8, c_11, km17_, km14_, km11_, km1_, k1_, k13_, k16_, ↓reduceIte, and_self, and_true, true_and, and_false, false_and, or_self, or_true, true_or, or_false, false_or, not_true_eq_false, not_false_eq_true, eq_self, Int.reduceLE, Int.reduceLT, Int.reduceEq] <;> (repeat' split) <;> first | with_reducible rfl | with_reducible assumption | (exfalso; omega) | rfl | trivial | assumption) | (simp only [rs_set, rw_set, ← ez_10]; done) | (simp only [rs_set, rw_set, ← ez_10] <;> (repeat' split) <;> first | (exfalso; omega) | rfl | trivial | assumption) | (simp only [rs_set, rw_set, ez_10] <;> (repeat' split) <;> first | (exfalso; omega) | rfl | trivial | assumption | contradiction) | (subst ez_10; simp only [rs_set, rw_set] <;> (repeat' split) <;> first | (exfalso; omega) | rfl | trivial | assumption))]; exact hRV)⟩, by rw [ht]; exact hP, hD⟩, hS.F ht⟩) hS.2.2 dX3_set_52
      · refine lv_if_ne (tgt := 35) hx hb dX3_set_22 (by decide) (fun c9 => absurd c9 (by decide)) (fun _ => ?_)
        refine lv_aload_n hx hb dX3_set_25 rfl (lv_at hl 0 rfl) ?_
        obtain ⟨k_12, hk_12⟩ := va_plg hg0.1 e_1
        refine va_get (D := (dC, dI)) (ci := 3) (v := .ref s1_1) (C := RX3) (T := TX3) (N := 23) hx hb hts iX3_ hown hK hP k_12 hk_12 rfl 0 (by decide) (hts (.fieldLink RX3 7 "FieldLeavesModel" "slot" "[I") (by decide +kernel)) (fun _ h9 => h9) rfl dX3_set_26 ?_
        refine lv_iload_n hx hb dX3_set_29 rfl (lv_at hl 1 rfl) ?_
        obtain ⟨k_13, hk_13⟩ := va_plg fs1_1.1 eg11
        have h_13 : vp_in p0 12 := (vp_in_iff.mpr (by constructor <;> omega))
        refine va_iald hx hb hK hP k_13 0 hk_13 rfl h_13 dX3_set_30 ?_
        refine lv_topi (fun z_13 ez_13 => ?_)
        have fz_13 := fg11 _ (vp_lt h_13)
        rw [← ez_13] at fz_13
        have hdez_13 := congrArg Int32.toInt ez_13
        refine lv_iconst (v := (-1)) hx hb dX3_set_31 (by decide) ?_
        refine lv_icmp_ne (tgt := 53) hx hb dX3_set_32 (by decide) (fun c_14 => ?_) (fun c_14 => ?_)
        · have c_14 := mt Int32.toInt_inj.mp c_14
          refine lv_iload_n hx hb dX3_set_53 rfl (lv_at hl 2 rfl) ?_
          refine lv_bipush (v := 13) hx hb dX3_set_54 (by decide) ?_
          refine lv_icmp_eq (tgt := 65) hx hb dX3_set_56 (by decide) (fun c_15 => ?_) (fun c_15 => ?_)
          · have c_15 := congrArg Int32.toInt c_15
            refine lv_bipush (v := (-17)) hx hb dX3_set_65 (by decide) ?_
            exact W.iret (v := (-17)) hx hb hr (fun t ht hW => ⟨⟨(-17), (), rfl, (by first | ((try simp only [km17_, km14_, km11_, km1_, k1_, k13_, k16_] at c_14 c_15); simp only [rs_set, rw_set, ← ez_13, ↓hp_3, ↓hp_5, ↓hp_8, c_14, c_15, km17_, km14_, km11_, km1_, k1_, k13_, k16_, ↓reduceIte, and_self, and_true, true_and, and_false, false_and, or_self, or_true, true_or, or_false, false_or, not_true_eq_false, not_false_eq_true, eq_self, Int.reduceLE, Int.reduceLT, Int.reduceEq]; done) | ((try simp only [km17_, km14_, km11_, km1_, k1_, k13_, k16_] at c_14 c_15); (try simp only [← ez_13, c_14, c_15, km17_, km14_, km11_, km1_, k1_, k13_, k16_, ↓reduceIte, and_self, and_true, true_and, and_false, false_and, or_self, or_true, true_or, or_false, false_or, not_true_eq_false, not_false_eq_true, eq_self, Int.reduceLE, Int.reduceLT, Int.reduceEq, Classical.not_not] at hp_3 hp_5 hp_8); simp only [rs_set, rw_set, ← ez_13, hp_3, hp_5, hp_8, c_14, c_15, km17_, km14_, km11_, km1_, k1_, k13_, k16_, ↓reduceIte, and_self, and_true, true_and, and_false, false_and, or_self, or_true, true_or, or_false, false_or, not_true_eq_false, not_false_eq_true, eq_self, Int.reduceLE, Int.reduceLT, Int.reduceEq]; done) | exact absurd c_14 c_15 | exact absurd c_15 c_14 | ((try simp only [km17_, km14_, km11_, km1_, k1_, k13_, k16_] at c_14 c_15); simp only [rs_set, rw_set, ← ez_13, ↓hp_3, ↓hp_5, ↓hp_8, c_14, c_15, km17_, km14_, km11_, km1_, k1_, k13_, k16_, ↓reduceIte, and_self, and_true, true_and, and_false, false_and, or_self, or_true, true_or, or_false, false_or, not_true_eq_false, not_false_eq_true, eq_self, Int.reduceLE, Int.reduceLT, Int.reduceEq] <;> (repeat' split) <;> first | with_reducible rfl | with_reducible assumption | (exfalso; omega) | rfl | trivial | assumption) | (simp only [rs_set, rw_set, ← ez_13]; done) | (simp only [rs_set, rw_set, ← ez_13] <;> (repeat' split) <;> first | (exfalso; omega) | rfl | trivial | assumption) | (simp only [rs_set, rw_set, ez_13] <;> (repeat' split) <;> first | (exfalso; omega) | rfl | trivial | assumption | contradiction) | (subst ez_13; simp only [rs_set, rw_set] <;> (repeat' split) <;> first | (exfalso; omega) | rfl | trivial | assumption)), f, hPI, ⟨hfr, (by rw [show rw_set fS fC fF p0 p1 p2 = fF from (by first | ((try simp only [km17_, km14_, km11_, km1_, k1_, k13_, k16_] at c_14 c_15); simp only [rs_set, rw_set, ← ez_13, ↓hp_3, ↓hp_5, ↓hp_8, c_14, c_15, km17_, km14_, km11_, km1_, k1_, k13_, k16_, ↓reduceIte, and_self, and_true, true_and, and_false, false_and, or_self, or_true, true_or, or_false, false_or, not_true_eq_false, not_false_eq_true, eq_self, Int.reduceLE, Int.reduceLT, Int.reduceEq]; done) | ((try simp only [km17_, km14_, km11_, km1_, k1_, k13_, k16_] at c_14 c_15); (try simp only [← ez_13, c_14, c_15, km17_, km14_, km11_, km1_, k1_, k13_, k16_, ↓reduceIte, and_self, and_true, true_and, and_false, false_and, or_self, or_true, true_or, or_false, false_or, not_true_eq_false, not_false_eq_true, eq_self, Int.reduceLE, Int.reduceLT, Int.reduceEq, Classical.not_not] at hp_3 hp_5 hp_8); simp only [rs_set, rw_set, ← ez_13, hp_3, hp_5, hp_8, c_14, c_15, km17_, km14_, km11_, km1_, k1_, k13_, k16_, ↓reduceIte, and_self, and_true, true_and, and_false, false_and, or_self, or_true, true_or, or_false, false_or, not_true_eq_false, not_false_eq_true, eq_self, Int.reduceLE, Int.reduceLT, Int.reduceEq]; done) | exact absurd c_14 c_15 | exact absurd c_15 c_14 | ((try simp only [km17_, km14_, km11_, km1_, k1_, k13_, k16_] at c_14 c_15); simp only [rs_set, rw_set, ← ez_13, ↓hp_3, ↓hp_5, ↓hp_8, c_14, c_15, km17_, km14_, km11_, km1_, k1_, k13_, k16_, ↓reduceIte, and_self, and_true, true_and, and_false, false_and, or_self, or_true, true_or, or_false, false_or, not_true_eq_false, not_false_eq_true, eq_self, Int.reduceLE, Int.reduceLT, Int.reduceEq] <;> (repeat' split) <;> first | with_reducible rfl | with_reducible assumption | (exfalso; omega) | rfl | trivial | assumption) | (simp only [rs_set, rw_set, ← ez_13]; done) | (simp only [rs_set, rw_set, ← ez_13] <;> (repeat' split) <;> first | (exfalso; omega) | rfl | trivial | assumption) | (simp only [rs_set, rw_set, ez_13] <;> (repeat' split) <;> first | (exfalso; omega) | rfl | trivial | assumption | contradiction) | (subst ez_13; simp only [rs_set, rw_set] <;> (repeat' split) <;> first | (exfalso; omega) | rfl | trivial | assumption))]; exact hRV)⟩, by rw [ht]; exact hP, hD⟩, hS.F ht⟩) hS.2.2 dX3_set_67
          · have c_15 := mt Int32.toInt_inj.mp c_15
            refine lv_iload_n hx hb dX3_set_59 rfl (lv_at hl 2 rfl) ?_
            refine lv_bipush (v := 16) hx hb dX3_set_60 (by decide) ?_
            refine lv_icmp_ne (tgt := 68) hx hb dX3_set_62 (by decide) (fun c_16 => ?_) (fun c_16 => ?_)
            · have c_16 := mt Int32.toInt_inj.mp c_16
              refine lv_aload_n hx hb dX3_set_68 rfl (lv_at hl 0 rfl) ?_
              obtain ⟨k_17, hk_17⟩ := va_plg hg0.1 e_1
              refine va_get (D := (dC, dI)) (ci := 3) (v := .ref s3_1) (C := RX3) (T := TX3) (N := 23) hx hb hts iX3_ hown hK hP k_17 hk_17 rfl 2 (by decide) (hts (.fieldLink RX3 17 "FieldLeavesModel" "field" "[J") (by decide +kernel)) (fun _ h9 => h9) rfl dX3_set_69 ?_
              refine lv_bipush (v := 17) hx hb dX3_set_72 (by decide) ?_
              refine lv_aload_n hx hb dX3_set_74 rfl (lv_at hl 0 rfl) ?_
              obtain ⟨k_18, hk_18⟩ := va_plg hg0.1 e_1
              refine va_get (D := (dC, dI)) (ci := 3) (v := .ref s1_1) (C := RX3) (T := TX3) (N := 23) hx hb hts iX3_ hown hK hP k_18 hk_18 rfl 0 (by decide) (hts (.fieldLink RX3 7 "FieldLeavesModel" "slot" "[I") (by decide +kernel)) (fun _ h9 => h9) rfl dX3_set_75 ?_
              refine lv_iload_n hx hb dX3_set_78 rfl (lv_at hl 1 rfl) ?_
              obtain ⟨k_19, hk_19⟩ := va_plg fs1_1.1 eg11
              have h_19 : vp_in p0 12 := (vp_in_iff.mpr (by constructor <;> omega))
              refine va_iald hx hb hK hP k_19 0 hk_19 rfl h_19 dX3_set_79 ?_
              refine lv_topi (fun z_19 ez_19 => ?_)
              obtain rfl : z_13 = z_19 := ez_13.trans ez_19.symm
              refine lv_imul hx hb dX3_set_80 ?_
              refine lv_topi (fun z_20 ez_20 => ?_)
              have kz_20 := mul17 ez_20 (by omega) (by omega)
              refine lv_iload_n hx hb dX3_set_81 rfl (lv_at hl 2 rfl) ?_
              refine lv_iadd hx hb dX3_set_82 ?_
              refine lv_topi (fun z_21 ez_21 => ?_)
              have kz_21 := add_toInt ez_21 (by omega) (by omega)
              refine lv_iload_n hx hb dX3_set_83 rfl (lv_at hl 2 rfl) ?_
              refine lv_lload_n hx hb dX3_set_84 rfl (lv_at hl 3 rfl) ?_
              refine va_calll (va_runS (As := [.int p1, .long p2]) (rest := [.int z_21, .ref s3_1]) ⟨hx, hb, hml, hown, hts⟩ (v_X3_valueOf l dC dI TT H.size kI kJ kZ K L f hPI p1 p2) (va_cwS 2 hts gX3_set_X3_valueOf rfl rfl rfl (by decide +kernel) ⟨Nat.le_of_ble_eq_true rfl, Nat.le_of_ble_eq_true rfl⟩) (pr_S (ws := va_pl L f) (wA := []) (tys := [(kI, .int), (kJ, .long), (kZ, .boolean)]) hP hK vd_nil hst hS (ro_free hS hA)) rfl rfl hl.1 rfl (lv_room (Nat.le_of_ble_eq_true rfl)) dX3_set_85 ⟨Nat.le_of_ble_eq_true rfl, Nat.le_of_ble_eq_true rfl⟩) hS (fun q _ h => (ro_free hS hA) q h) (ro_free hS hA) (fun r_22 u t H1 locs ht hvm hw hB hz1 hk1 hS => ?_)
              have hP := ro_keep hP hk1
              generalize H1 = H at hP hS ⊢
              have hq_23 := hw
              obtain ⟨k_24, hk_24⟩ := va_plg fs3_1.1 eg13
              have hq_i_25 := idx_clamp (o := z_13) (f := p1) (w := z_21) (by omega) (by omega) (by omega)
              have h_24 : vp_in z_21 108800 := (vp_in_iff.mpr (by constructor <;> omega))
              have fw_24 := rgF.plain fg13 (o := z_13) (f := p1) (w := z_21) (v := r_22) (by constructor <;> omega) (by omega) (by omega)
              have hD9 := hD
              refine va_last hx hb hK hP hD hS k_24 1 hk_24 rfl h_24 dX3_set_88 (fun H locs hP hD hS => ?_)
              have hP : va_P (dC, dI) vwCl (va_pl L (va_up f s3_1 (.inl (kJ, 108800, .inr (.inl (vp_updL fF (Int32.toNatClampNeg z_21) r_22)))))) H := by rw [← va_pls hD9 fs3_1.1 hk_24 _]; exact hP
              have hD : va_D A (va_pl L (va_up f s3_1 (.inl (kJ, 108800, .inr (.inl (vp_updL fF (Int32.toNatClampNeg z_21) r_22)))))) := by rw [← va_pls hD9 fs3_1.1 hk_24 _]; exact hD
              have hPI := hPI.put (e := .inl (kJ, 108800, .inr (.inl (vp_updL fF (Int32.toNatClampNeg z_21) r_22)))) fs3_1 ⟨_, rfl, fw_24⟩
              have es_f_26 : va_up f s3_1 (.inl (kJ, 108800, .inr (.inl (vp_updL fF (Int32.toNatClampNeg z_21) r_22)))) s3_1 = .inl (kJ, 108800, .inr (.inl (vp_updL fF (Int32.toNatClampNeg z_21) r_22))) := va_up_self _ _ _
              have eq_27 := (va_up_ne f (.inl (kJ, 108800, .inr (.inl (vp_updL fF (Int32.toNatClampNeg z_21) r_22)))) (isr_ne hg0 fs3_1 (by decide))).trans e_1
              have eq_28 := (va_up_ne f (.inl (kJ, 108800, .inr (.inl (vp_updL fF (Int32.toNatClampNeg z_21) r_22)))) (isr_ne fs1_1 fs3_1 (by decide))).trans eg11
              have eq_29 := (va_up_ne f (.inl (kJ, 108800, .inr (.inl (vp_updL fF (Int32.toNatClampNeg z_21) r_22)))) (isr_ne fs2_1 fs3_1 (by decide))).trans eg12
              have eq_30 := (va_up_ne f (.inl (kJ, 108800, .inr (.inl (vp_updL fF (Int32.toNatClampNeg z_21) r_22)))) (isr_ne fs4_1 fs3_1 (by decide))).trans eg14
              have eq_31 := (va_up_ne f (.inl (kJ, 108800, .inr (.inl (vp_updL fF (Int32.toNatClampNeg z_21) r_22)))) (isr_ne fs5_1 fs3_1 (by decide))).trans eg15
              have eq_32 := (va_up_ne f (.inl (kJ, 108800, .inr (.inl (vp_updL fF (Int32.toNatClampNeg z_21) r_22)))) (isr_ne fs8_1 fs3_1 (by decide))).trans eg18
              have eq_33 := (va_up_ne f (.inl (kJ, 108800, .inr (.inl (vp_updL fF (Int32.toNatClampNeg z_21) r_22)))) (isr_ne fs9_1 fs3_1 (by decide))).trans eg19
              have eq_34 := (va_up_ne f (.inl (kJ, 108800, .inr (.inl (vp_updL fF (Int32.toNatClampNeg z_21) r_22)))) (isr_ne fs10_1 fs3_1 (by decide))).trans eg20
              have hfr := fr_up (S := (sK [13])) (e := .inl (kJ, 108800, .inr (.inl (vp_updL fF (Int32.toNatClampNeg z_21) r_22)))) hfr fs3_1 (by decide)
              generalize hg_f_26 : va_up f s3_1 (.inl (kJ, 108800, .inr (.inl (vp_updL fF (Int32.toNatClampNeg z_21) r_22)))) = f_26 at hP hD hPI es_f_26 eq_27 eq_28 eq_29 eq_30 eq_31 eq_32 eq_33 eq_34 hfr
              refine lv_iconst (v := 1) hx hb dX3_set_89 (by decide) ?_
              exact W.iret (v := 1) hx hb hr (fun t ht hW => ⟨⟨1, (), rfl, (by first | ((try simp only [km17_, km14_, km11_, km1_, k1_, k13_, k16_] at c_14 c_15 c_16); simp only [rs_set, rw_set, ← ez_13, ← ez_20, ← ez_21, hq_23, hq_i_25, ↓hp_3, ↓hp_5, ↓hp_8, c_14, c_15, c_16, km17_, km14_, km11_, km1_, k1_, k13_, k16_, ↓reduceIte, and_self, and_true, true_and, and_false, false_and, or_self, or_true, true_or, or_false, false_or, not_true_eq_false, not_false_eq_true, eq_self, Int.reduceLE, Int.reduceLT, Int.reduceEq]; done) | ((try simp only [km17_, km14_, km11_, km1_, k1_, k13_, k16_] at c_14 c_15 c_16); (try simp only [← ez_13, ← ez_20, ← ez_21, c_14, c_15, c_16, km17_, km14_, km11_, km1_, k1_, k13_, k16_, ↓reduceIte, and_self, and_true, true_and, and_false, false_and, or_self, or_true, true_or, or_false, false_or, not_true_eq_false, not_false_eq_true, eq_self, Int.reduceLE, Int.reduceLT, Int.reduceEq, Classical.not_not] at hp_3 hp_5 hp_8); simp only [rs_set, rw_set, ← ez_13, ← ez_20, ← ez_21, hq_23, hq_i_25, hp_3, hp_5, hp_8, c_14, c_15, c_16, km17_, km14_, km11_, km1_, k1_, k13_, k16_, ↓reduceIte, and_self, and_true, true_and, and_false, false_and, or_self, or_true, true_or, or_false, false_or, not_true_eq_false, not_false_eq_true, eq_self, Int.reduceLE, Int.reduceLT, Int.reduceEq]; done) | exact absurd c_14 c_15 | exact absurd c_14 c_16 | exact absurd c_15 c_14 | exact absurd c_15 c_16 | exact absurd c_16 c_14 | exact absurd c_16 c_15 | ((try simp only [km17_, km14_, km11_, km1_, k1_, k13_, k16_] at c_14 c_15 c_16); simp only [rs_set, rw_set, ← ez_13, ← ez_20, ← ez_21, hq_23, hq_i_25, ↓hp_3, ↓hp_5, ↓hp_8, c_14, c_15, c_16, km17_, km14_, km11_, km1_, k1_, k13_, k16_, ↓reduceIte, and_self, and_true, true_and, and_false, false_and, or_self, or_true, true_or, or_false, false_or, not_true_eq_false, not_false_eq_true, eq_self, Int.reduceLE, Int.reduceLT, Int.reduceEq] <;> (repeat' split) <;> first | with_reducible rfl | with_reducible assumption | (exfalso; omega) | rfl | trivial | assumption) | (simp only [rs_set, rw_set, ← ez_13, ← ez_20, ← ez_21, hq_23, hq_i_25]; done) | (simp only [rs_set, rw_set, ← ez_13, ← ez_20, ← ez_21, hq_23, hq_i_25] <;> (repeat' split) <;> first | (exfalso; omega) | rfl | trivial | assumption) | (simp only [rs_set, rw_set, ez_13, ez_20, ez_21, hq_23, hq_i_25] <;> (repeat' split) <;> first | (exfalso; omega) | rfl | trivial | assumption | contradiction) | (subst ez_13 ez_20 ez_21; simp only [rs_set, rw_set, hq_23, hq_i_25] <;> (repeat' split) <;> first | (exfalso; omega) | rfl | trivial | assumption)), f_26, hPI, ⟨hfr, (by rw [show rw_set fS fC fF p0 p1 p2 = (vp_updL fF (Int32.toNatClampNeg z_21) r_22) from (by first | ((try simp only [km17_, km14_, km11_, km1_, k1_, k13_, k16_] at c_14 c_15 c_16); simp only [rs_set, rw_set, ← ez_13, ← ez_20, ← ez_21, hq_23, hq_i_25, ↓hp_3, ↓hp_5, ↓hp_8, c_14, c_15, c_16, km17_, km14_, km11_, km1_, k1_, k13_, k16_, ↓reduceIte, and_self, and_true, true_and, and_false, false_and, or_self, or_true, true_or, or_false, false_or, not_true_eq_false, not_false_eq_true, eq_self, Int.reduceLE, Int.reduceLT, Int.reduceEq]; done) | ((try simp only [km17_, km14_, km11_, km1_, k1_, k13_, k16_] at c_14 c_15 c_16); (try simp only [← ez_13, ← ez_20, ← ez_21, c_14, c_15, c_16, km17_, km14_, km11_, km1_, k1_, k13_, k16_, ↓reduceIte, and_self, and_true, true_and, and_false, false_and, or_self, or_true, true_or, or_false, false_or, not_true_eq_false, not_false_eq_true, eq_self, Int.reduceLE, Int.reduceLT, Int.reduceEq, Classical.not_not] at hp_3 hp_5 hp_8); simp only [rs_set, rw_set, ← ez_13, ← ez_20, ← ez_21, hq_23, hq_i_25, hp_3, hp_5, hp_8, c_14, c_15, c_16, km17_, km14_, km11_, km1_, k1_, k13_, k16_, ↓reduceIte, and_self, and_true, true_and, and_false, false_and, or_self, or_true, true_or, or_false, false_or, not_true_eq_false, not_false_eq_true, eq_self, Int.reduceLE, Int.reduceLT, Int.reduceEq]; done) | exact absurd c_14 c_15 | exact absurd c_14 c_16 | exact absurd c_15 c_14 | exact absurd c_15 c_16 | exact absurd c_16 c_14 | exact absurd c_16 c_15 | ((try simp only [km17_, km14_, km11_, km1_, k1_, k13_, k16_] at c_14 c_15 c_16); simp only [rs_set, rw_set, ← ez_13, ← ez_20, ← ez_21, hq_23, hq_i_25, ↓hp_3, ↓hp_5, ↓hp_8, c_14, c_15, c_16, km17_, km14_, km11_, km1_, k1_, k13_, k16_, ↓reduceIte, and_self, and_true, true_and, and_false, false_and, or_self, or_true, true_or, or_false, false_or, not_true_eq_false, not_false_eq_true, eq_self, Int.reduceLE, Int.reduceLT, Int.reduceEq] <;> (repeat' split) <;> first | with_reducible rfl | with_reducible assumption | (exfalso; omega) | rfl | trivial | assumption) | (simp only [rs_set, rw_set, ← ez_13, ← ez_20, ← ez_21, hq_23, hq_i_25]; done) | (simp only [rs_set, rw_set, ← ez_13, ← ez_20, ← ez_21, hq_23, hq_i_25] <;> (repeat' split) <;> first | (exfalso; omega) | rfl | trivial | assumption) | (simp only [rs_set, rw_set, ez_13, ez_20, ez_21, hq_23, hq_i_25] <;> (repeat' split) <;> first | (exfalso; omega) | rfl | trivial | assumption | contradiction) | (subst ez_13 ez_20 ez_21; simp only [rs_set, rw_set, hq_23, hq_i_25] <;> (repeat' split) <;> first | (exfalso; omega) | rfl | trivial | assumption))]; exact ⟨SV.mk hU fs1_1 fs2_1 fs3_1 eq_28 eq_29 es_f_26, ⟨un_row hU fs4_1 eq_30, un_row hU fs5_1 eq_31⟩, ⟨un_row hU fs8_1 eq_32, un_row hU fs9_1 eq_33, un_row hU fs10_1 eq_34⟩, (by rw [eq_27]; rfl), (by rw [eq_27]; rfl)⟩)⟩, by rw [ht]; exact hP, hD⟩, hS.F ht⟩) hS.2.2 dX3_set_90
            · have c_16 := congrArg Int32.toInt c_16
              refine lv_bipush (v := (-17)) hx hb dX3_set_65 (by decide) ?_
              exact W.iret (v := (-17)) hx hb hr (fun t ht hW => ⟨⟨(-17), (), rfl, (by first | ((try simp only [km17_, km14_, km11_, km1_, k1_, k13_, k16_] at c_14 c_15 c_16); simp only [rs_set, rw_set, ← ez_13, ↓hp_3, ↓hp_5, ↓hp_8, c_14, c_15, c_16, km17_, km14_, km11_, km1_, k1_, k13_, k16_, ↓reduceIte, and_self, and_true, true_and, and_false, false_and, or_self, or_true, true_or, or_false, false_or, not_true_eq_false, not_false_eq_true, eq_self, Int.reduceLE, Int.reduceLT, Int.reduceEq]; done) | ((try simp only [km17_, km14_, km11_, km1_, k1_, k13_, k16_] at c_14 c_15 c_16); (try simp only [← ez_13, c_14, c_15, c_16, km17_, km14_, km11_, km1_, k1_, k13_, k16_, ↓reduceIte, and_self, and_true, true_and, and_false, false_and, or_self, or_true, true_or, or_false, false_or, not_true_eq_false, not_false_eq_true, eq_self, Int.reduceLE, Int.reduceLT, Int.reduceEq, Classical.not_not] at hp_3 hp_5 hp_8); simp only [rs_set, rw_set, ← ez_13, hp_3, hp_5, hp_8, c_14, c_15, c_16, km17_, km14_, km11_, km1_, k1_, k13_, k16_, ↓reduceIte, and_self, and_true, true_and, and_false, false_and, or_self, or_true, true_or, or_false, false_or, not_true_eq_false, not_false_eq_true, eq_self, Int.reduceLE, Int.reduceLT, Int.reduceEq]; done) | exact absurd c_14 c_15 | exact absurd c_14 c_16 | exact absurd c_15 c_14 | exact absurd c_15 c_16 | exact absurd c_16 c_14 | exact absurd c_16 c_15 | ((try simp only [km17_, km14_, km11_, km1_, k1_, k13_, k16_] at c_14 c_15 c_16); simp only [rs_set, rw_set, ← ez_13, ↓hp_3, ↓hp_5, ↓hp_8, c_14, c_15, c_16, km17_, km14_, km11_, km1_, k1_, k13_, k16_, ↓reduceIte, and_self, and_true, true_and, and_false, false_and, or_self, or_true, true_or, or_false, false_or, not_true_eq_false, not_false_eq_true, eq_self, Int.reduceLE, Int.reduceLT, Int.reduceEq] <;> (repeat' split) <;> first | with_reducible rfl | with_reducible assumption | (exfalso; omega) | rfl | trivial | assumption) | (simp only [rs_set, rw_set, ← ez_13]; done) | (simp only [rs_set, rw_set, ← ez_13] <;> (repeat' split) <;> first | (exfalso; omega) | rfl | trivial | assumption) | (simp only [rs_set, rw_set, ez_13] <;> (repeat' split) <;> first | (exfalso; omega) | rfl | trivial | assumption | contradiction) | (subst ez_13; simp only [rs_set, rw_set] <;> (repeat' split) <;> first | (exfalso; omega) | rfl | trivial | assumption)), f, hPI, ⟨hfr, (by rw [show rw_set fS fC fF p0 p1 p2 = fF from (by first | ((try simp only [km17_, km14_, km11_, km1_, k1_, k13_, k16_] at c_14 c_15 c_16); simp only [rs_set, rw_set, ← ez_13, ↓hp_3, ↓hp_5, ↓hp_8, c_14, c_15, c_16, km17_, km14_, km11_, km1_, k1_, k13_, k16_, ↓reduceIte, and_self, and_true, true_and, and_false, false_and, or_self, or_true, true_or, or_false, false_or, not_true_eq_false, not_false_eq_true, eq_self, Int.reduceLE, Int.reduceLT, Int.reduceEq]; done) | ((try simp only [km17_, km14_, km11_, km1_, k1_, k13_, k16_] at c_14 c_15 c_16); (try simp only [← ez_13, c_14, c_15, c_16, km17_, km14_, km11_, km1_, k1_, k13_, k16_, ↓reduceIte, and_self, and_true, true_and, and_false, false_and, or_self, or_true, true_or, or_false, false_or, not_true_eq_false, not_false_eq_true, eq_self, Int.reduceLE, Int.reduceLT, Int.reduceEq, Classical.not_not] at hp_3 hp_5 hp_8); simp only [rs_set, rw_set, ← ez_13, hp_3, hp_5, hp_8, c_14, c_15, c_16, km17_, km14_, km11_, km1_, k1_, k13_, k16_, ↓reduceIte, and_self, and_true, true_and, and_false, false_and, or_self, or_true, true_or, or_false, false_or, not_true_eq_false, not_false_eq_true, eq_self, Int.reduceLE, Int.reduceLT, Int.reduceEq]; done) | exact absurd c_14 c_15 | exact absurd c_14 c_16 | exact absurd c_15 c_14 | exact absurd c_15 c_16 | exact absurd c_16 c_14 | exact absurd c_16 c_15 | ((try simp only [km17_, km14_, km11_, km1_, k1_, k13_, k16_] at c_14 c_15 c_16); simp only [rs_set, rw_set, ← ez_13, ↓hp_3, ↓hp_5, ↓hp_8, c_14, c_15, c_16, km17_, km14_, km11_, km1_, k1_, k13_, k16_, ↓reduceIte, and_self, and_true, true_and, and_false, false_and, or_self, or_true, true_or, or_false, false_or, not_true_eq_false, not_false_eq_true, eq_self, Int.reduceLE, Int.reduceLT, Int.reduceEq] <;> (repeat' split) <;> first | with_reducible rfl | with_reducible assumption | (exfalso; omega) | rfl | trivial | assumption) | (simp only [rs_set, rw_set, ← ez_13]; done) | (simp only [rs_set, rw_set, ← ez_13] <;> (repeat' split) <;> first | (exfalso; omega) | rfl | trivial | assumption) | (simp only [rs_set, rw_set, ez_13] <;> (repeat' split) <;> first | (exfalso; omega) | rfl | trivial | assumption | contradiction) | (subst ez_13; simp only [rs_set, rw_set] <;> (repeat' split) <;> first | (exfalso; omega) | rfl | trivial | assumption))]; exact hRV)⟩, by rw [ht]; exact hP, hD⟩, hS.F ht⟩) hS.2.2 dX3_set_67
        · have c_14 := congrArg Int32.toInt c_14
          refine lv_aload_n hx hb dX3_set_35 rfl (lv_at hl 0 rfl) ?_
          obtain ⟨k_35, hk_35⟩ := va_plg hg0.1 e_1
          refine va_get (D := (dC, dI)) (ci := 3) (v := .ref s1_1) (C := RX3) (T := TX3) (N := 23) hx hb hts iX3_ hown hK hP k_35 hk_35 rfl 0 (by decide) (hts (.fieldLink RX3 7 "FieldLeavesModel" "slot" "[I") (by decide +kernel)) (fun _ h9 => h9) rfl dX3_set_36 ?_
          refine lv_iload_n hx hb dX3_set_39 rfl (lv_at hl 1 rfl) ?_
          obtain ⟨k_36, hk_36⟩ := va_plg fs1_1.1 eg11
          have h_36 : vp_in p0 12 := (vp_in_iff.mpr (by constructor <;> omega))
          refine va_iald hx hb hK hP k_36 0 hk_36 rfl h_36 dX3_set_40 ?_
          refine lv_topi (fun z_36 ez_36 => ?_)
          obtain rfl : z_13 = z_36 := ez_13.trans ez_36.symm
          refine lv_iconst (v := (-1)) hx hb dX3_set_41 (by decide) ?_
          refine lv_icmp_ne (tgt := 50) hx hb dX3_set_42 (by decide) (fun c_37 => ?_) (fun c_37 => ?_)
          · have c_37 := mt Int32.toInt_inj.mp c_37
            refine lv_bipush (v := (-14)) hx hb dX3_set_50 (by decide) ?_
            exact W.iret (v := (-14)) hx hb hr (fun t ht hW => ⟨⟨(-14), (), rfl, (by first | ((try simp only [km17_, km14_, km11_, km1_, k1_, k13_, k16_] at c_14 c_37); simp only [rs_set, rw_set, ← ez_13, ↓hp_3, ↓hp_5, ↓hp_8, c_14, c_37, km17_, km14_, km11_, km1_, k1_, k13_, k16_, ↓reduceIte, and_self, and_true, true_and, and_false, false_and, or_self, or_true, true_or, or_false, false_or, not_true_eq_false, not_false_eq_true, eq_self, Int.reduceLE, Int.reduceLT, Int.reduceEq]; done) | ((try simp only [km17_, km14_, km11_, km1_, k1_, k13_, k16_] at c_14 c_37); (try simp only [← ez_13, c_14, c_37, km17_, km14_, km11_, km1_, k1_, k13_, k16_, ↓reduceIte, and_self, and_true, true_and, and_false, false_and, or_self, or_true, true_or, or_false, false_or, not_true_eq_false, not_false_eq_true, eq_self, Int.reduceLE, Int.reduceLT, Int.reduceEq, Classical.not_not] at hp_3 hp_5 hp_8); simp only [rs_set, rw_set, ← ez_13, hp_3, hp_5, hp_8, c_14, c_37, km17_, km14_, km11_, km1_, k1_, k13_, k16_, ↓reduceIte, and_self, and_true, true_and, and_false, false_and, or_self, or_true, true_or, or_false, false_or, not_true_eq_false, not_false_eq_true, eq_self, Int.reduceLE, Int.reduceLT, Int.reduceEq]; done) | exact absurd c_14 c_37 | exact absurd c_37 c_14 | ((try simp only [km17_, km14_, km11_, km1_, k1_, k13_, k16_] at c_14 c_37); simp only [rs_set, rw_set, ← ez_13, ↓hp_3, ↓hp_5, ↓hp_8, c_14, c_37, km17_, km14_, km11_, km1_, k1_, k13_, k16_, ↓reduceIte, and_self, and_true, true_and, and_false, false_and, or_self, or_true, true_or, or_false, false_or, not_true_eq_false, not_false_eq_true, eq_self, Int.reduceLE, Int.reduceLT, Int.reduceEq] <;> (repeat' split) <;> first | with_reducible rfl | with_reducible assumption | (exfalso; omega) | rfl | trivial | assumption) | (simp only [rs_set, rw_set, ← ez_13]; done) | (simp only [rs_set, rw_set, ← ez_13] <;> (repeat' split) <;> first | (exfalso; omega) | rfl | trivial | assumption) | (simp only [rs_set, rw_set, ez_13] <;> (repeat' split) <;> first | (exfalso; omega) | rfl | trivial | assumption | contradiction) | (subst ez_13; simp only [rs_set, rw_set] <;> (repeat' split) <;> first | (exfalso; omega) | rfl | trivial | assumption)), f, hPI, ⟨hfr, (by rw [show rw_set fS fC fF p0 p1 p2 = fF from (by first | ((try simp only [km17_, km14_, km11_, km1_, k1_, k13_, k16_] at c_14 c_37); simp only [rs_set, rw_set, ← ez_13, ↓hp_3, ↓hp_5, ↓hp_8, c_14, c_37, km17_, km14_, km11_, km1_, k1_, k13_, k16_, ↓reduceIte, and_self, and_true, true_and, and_false, false_and, or_self, or_true, true_or, or_false, false_or, not_true_eq_false, not_false_eq_true, eq_self, Int.reduceLE, Int.reduceLT, Int.reduceEq]; done) | ((try simp only [km17_, km14_, km11_, km1_, k1_, k13_, k16_] at c_14 c_37); (try simp only [← ez_13, c_14, c_37, km17_, km14_, km11_, km1_, k1_, k13_, k16_, ↓reduceIte, and_self, and_true, true_and, and_false, false_and, or_self, or_true, true_or, or_false, false_or, not_true_eq_false, not_false_eq_true, eq_self, Int.reduceLE, Int.reduceLT, Int.reduceEq, Classical.not_not] at hp_3 hp_5 hp_8); simp only [rs_set, rw_set, ← ez_13, hp_3, hp_5, hp_8, c_14, c_37, km17_, km14_, km11_, km1_, k1_, k13_, k16_, ↓reduceIte, and_self, and_true, true_and, and_false, false_and, or_self, or_true, true_or, or_false, false_or, not_true_eq_false, not_false_eq_true, eq_self, Int.reduceLE, Int.reduceLT, Int.reduceEq]; done) | exact absurd c_14 c_37 | exact absurd c_37 c_14 | ((try simp only [km17_, km14_, km11_, km1_, k1_, k13_, k16_] at c_14 c_37); simp only [rs_set, rw_set, ← ez_13, ↓hp_3, ↓hp_5, ↓hp_8, c_14, c_37, km17_, km14_, km11_, km1_, k1_, k13_, k16_, ↓reduceIte, and_self, and_true, true_and, and_false, false_and, or_self, or_true, true_or, or_false, false_or, not_true_eq_false, not_false_eq_true, eq_self, Int.reduceLE, Int.reduceLT, Int.reduceEq] <;> (repeat' split) <;> first | with_reducible rfl | with_reducible assumption | (exfalso; omega) | rfl | trivial | assumption) | (simp only [rs_set, rw_set, ← ez_13]; done) | (simp only [rs_set, rw_set, ← ez_13] <;> (repeat' split) <;> first | (exfalso; omega) | rfl | trivial | assumption) | (simp only [rs_set, rw_set, ez_13] <;> (repeat' split) <;> first | (exfalso; omega) | rfl | trivial | assumption | contradiction) | (subst ez_13; simp only [rs_set, rw_set] <;> (repeat' split) <;> first | (exfalso; omega) | rfl | trivial | assumption))]; exact hRV)⟩, by rw [ht]; exact hP, hD⟩, hS.F ht⟩) hS.2.2 dX3_set_52
          · have c_37 := congrArg Int32.toInt c_37
            refine lv_bipush (v := (-11)) hx hb dX3_set_45 (by decide) ?_
            refine lv_goto (tgt := 52) hx hb dX3_set_47 (by decide) ?_
            exact W.iret (v := (-11)) hx hb hr (fun t ht hW => ⟨⟨(-11), (), rfl, (by first | ((try simp only [km17_, km14_, km11_, km1_, k1_, k13_, k16_] at c_14 c_37); simp only [rs_set, rw_set, ← ez_13, ↓hp_3, ↓hp_5, ↓hp_8, c_14, c_37, km17_, km14_, km11_, km1_, k1_, k13_, k16_, ↓reduceIte, and_self, and_true, true_and, and_false, false_and, or_self, or_true, true_or, or_false, false_or, not_true_eq_false, not_false_eq_true, eq_self, Int.reduceLE, Int.reduceLT, Int.reduceEq]; done) | ((try simp only [km17_, km14_, km11_, km1_, k1_, k13_, k16_] at c_14 c_37); (try simp only [← ez_13, c_14, c_37, km17_, km14_, km11_, km1_, k1_, k13_, k16_, ↓reduceIte, and_self, and_true, true_and, and_false, false_and, or_self, or_true, true_or, or_false, false_or, not_true_eq_false, not_false_eq_true, eq_self, Int.reduceLE, Int.reduceLT, Int.reduceEq, Classical.not_not] at hp_3 hp_5 hp_8); simp only [rs_set, rw_set, ← ez_13, hp_3, hp_5, hp_8, c_14, c_37, km17_, km14_, km11_, km1_, k1_, k13_, k16_, ↓reduceIte, and_self, and_true, true_and, and_false, false_and, or_self, or_true, true_or, or_false, false_or, not_true_eq_false, not_false_eq_true, eq_self, Int.reduceLE, Int.reduceLT, Int.reduceEq]; done) | exact absurd c_14 c_37 | exact absurd c_37 c_14 | ((try simp only [km17_, km14_, km11_, km1_, k1_, k13_, k16_] at c_14 c_37); simp only [rs_set, rw_set, ← ez_13, ↓hp_3, ↓hp_5, ↓hp_8, c_14, c_37, km17_, km14_, km11_, km1_, k1_, k13_, k16_, ↓reduceIte, and_self, and_true, true_and, and_false, false_and, or_self, or_true, true_or, or_false, false_or, not_true_eq_false, not_false_eq_true, eq_self, Int.reduceLE, Int.reduceLT, Int.reduceEq] <;> (repeat' split) <;> first | with_reducible rfl | with_reducible assumption | (exfalso; omega) | rfl | trivial | assumption) | (simp only [rs_set, rw_set, ← ez_13]; done) | (simp only [rs_set, rw_set, ← ez_13] <;> (repeat' split) <;> first | (exfalso; omega) | rfl | trivial | assumption) | (simp only [rs_set, rw_set, ez_13] <;> (repeat' split) <;> first | (exfalso; omega) | rfl | trivial | assumption | contradiction) | (subst ez_13; simp only [rs_set, rw_set] <;> (repeat' split) <;> first | (exfalso; omega) | rfl | trivial | assumption)), f, hPI, ⟨hfr, (by rw [show rw_set fS fC fF p0 p1 p2 = fF from (by first | ((try simp only [km17_, km14_, km11_, km1_, k1_, k13_, k16_] at c_14 c_37); simp only [rs_set, rw_set, ← ez_13, ↓hp_3, ↓hp_5, ↓hp_8, c_14, c_37, km17_, km14_, km11_, km1_, k1_, k13_, k16_, ↓reduceIte, and_self, and_true, true_and, and_false, false_and, or_self, or_true, true_or, or_false, false_or, not_true_eq_false, not_false_eq_true, eq_self, Int.reduceLE, Int.reduceLT, Int.reduceEq]; done) | ((try simp only [km17_, km14_, km11_, km1_, k1_, k13_, k16_] at c_14 c_37); (try simp only [← ez_13, c_14, c_37, km17_, km14_, km11_, km1_, k1_, k13_, k16_, ↓reduceIte, and_self, and_true, true_and, and_false, false_and, or_self, or_true, true_or, or_false, false_or, not_true_eq_false, not_false_eq_true, eq_self, Int.reduceLE, Int.reduceLT, Int.reduceEq, Classical.not_not] at hp_3 hp_5 hp_8); simp only [rs_set, rw_set, ← ez_13, hp_3, hp_5, hp_8, c_14, c_37, km17_, km14_, km11_, km1_, k1_, k13_, k16_, ↓reduceIte, and_self, and_true, true_and, and_false, false_and, or_self, or_true, true_or, or_false, false_or, not_true_eq_false, not_false_eq_true, eq_self, Int.reduceLE, Int.reduceLT, Int.reduceEq]; done) | exact absurd c_14 c_37 | exact absurd c_37 c_14 | ((try simp only [km17_, km14_, km11_, km1_, k1_, k13_, k16_] at c_14 c_37); simp only [rs_set, rw_set, ← ez_13, ↓hp_3, ↓hp_5, ↓hp_8, c_14, c_37, km17_, km14_, km11_, km1_, k1_, k13_, k16_, ↓reduceIte, and_self, and_true, true_and, and_false, false_and, or_self, or_true, true_or, or_false, false_or, not_true_eq_false, not_false_eq_true, eq_self, Int.reduceLE, Int.reduceLT, Int.reduceEq] <;> (repeat' split) <;> first | with_reducible rfl | with_reducible assumption | (exfalso; omega) | rfl | trivial | assumption) | (simp only [rs_set, rw_set, ← ez_13]; done) | (simp only [rs_set, rw_set, ← ez_13] <;> (repeat' split) <;> first | (exfalso; omega) | rfl | trivial | assumption) | (simp only [rs_set, rw_set, ez_13] <;> (repeat' split) <;> first | (exfalso; omega) | rfl | trivial | assumption | contradiction) | (subst ez_13; simp only [rs_set, rw_set] <;> (repeat' split) <;> first | (exfalso; omega) | rfl | trivial | assumption))]; exact hRV)⟩, by rw [ht]; exact hP, hD⟩, hS.F ht⟩) hS.2.2 dX3_set_52
    · refine lv_if_ne (tgt := 16) hx hb dX3_set_11 (by decide) (fun c9 => absurd c9 (by decide)) (fun _ => ?_)
      refine lv_iconst (v := (-1)) hx hb dX3_set_14 (by decide) ?_
      exact W.iret (v := (-1)) hx hb hr (fun t ht hW => ⟨⟨(-1), (), rfl, (by first | (simp only [rs_set, rw_set, ↓hp_3, ↓hp_5, km17_, km14_, km11_, km1_, k1_, k13_, k16_, ↓reduceIte, and_self, and_true, true_and, and_false, false_and, or_self, or_true, true_or, or_false, false_or, not_true_eq_false, not_false_eq_true, eq_self, Int.reduceLE, Int.reduceLT, Int.reduceEq]; done) | (simp only [rs_set, rw_set, ↓hp_3, ↓hp_5, km17_, km14_, km11_, km1_, k1_, k13_, k16_, ↓reduceIte, and_self, and_true, true_and, and_false, false_and, or_self, or_true, true_or, or_false, false_or, not_true_eq_false, not_false_eq_true, eq_self, Int.reduceLE, Int.reduceLT, Int.reduceEq] <;> (repeat' split) <;> first | with_reducible rfl | with_reducible assumption | (exfalso; omega) | rfl | trivial | assumption) | (simp only [rs_set, rw_set]; done) | (simp only [rs_set, rw_set] <;> (repeat' split) <;> first | (exfalso; omega) | rfl | trivial | assumption) | (simp only [rs_set, rw_set] <;> (repeat' split) <;> first | (exfalso; omega) | rfl | trivial | assumption | contradiction)), f, hPI, ⟨hfr, (by rw [show rw_set fS fC fF p0 p1 p2 = fF from (by first | (simp only [rs_set, rw_set, ↓hp_3, ↓hp_5, km17_, km14_, km11_, km1_, k1_, k13_, k16_, ↓reduceIte, and_self, and_true, true_and, and_false, false_and, or_self, or_true, true_or, or_false, false_or, not_true_eq_false, not_false_eq_true, eq_self, Int.reduceLE, Int.reduceLT, Int.reduceEq]; done) | (simp only [rs_set, rw_set, ↓hp_3, ↓hp_5, km17_, km14_, km11_, km1_, k1_, k13_, k16_, ↓reduceIte, and_self, and_true, true_and, and_false, false_and, or_self, or_true, true_or, or_false, false_or, not_true_eq_false, not_false_eq_true, eq_self, Int.reduceLE, Int.reduceLT, Int.reduceEq] <;> (repeat' split) <;> first | with_reducible rfl | with_reducible assumption | (exfalso; omega) | rfl | trivial | assumption) | (simp only [rs_set, rw_set]; done) | (simp only [rs_set, rw_set] <;> (repeat' split) <;> first | (exfalso; omega) | rfl | trivial | assumption) | (simp only [rs_set, rw_set] <;> (repeat' split) <;> first | (exfalso; omega) | rfl | trivial | assumption | contradiction))]; exact hRV)⟩, by rw [ht]; exact hP, hD⟩, hS.F ht⟩) hS.2.2 dX3_set_15
  · refine lv_if_eq (tgt := 14) hx hb dX3_set_4 (by decide) (fun _ => ?_) (fun c9 => absurd c9 (by decide))
    refine lv_iconst (v := (-1)) hx hb dX3_set_14 (by decide) ?_
    exact W.iret (v := (-1)) hx hb hr (fun t ht hW => ⟨⟨(-1), (), rfl, (by first | (simp only [rs_set, rw_set, ↓hp_3, km17_, km14_, km11_, km1_, k1_, k13_, k16_, ↓reduceIte, and_self, and_true, true_and, and_false, false_and, or_self, or_true, true_or, or_false, false_or, not_true_eq_false, not_false_eq_true, eq_self, Int.reduceLE, Int.reduceLT, Int.reduceEq]; done) | (simp only [rs_set, rw_set, ↓hp_3, km17_, km14_, km11_, km1_, k1_, k13_, k16_, ↓reduceIte, and_self, and_true, true_and, and_false, false_and, or_self, or_true, true_or, or_false, false_or, not_true_eq_false, not_false_eq_true, eq_self, Int.reduceLE, Int.reduceLT, Int.reduceEq] <;> (repeat' split) <;> first | with_reducible rfl | with_reducible assumption | (exfalso; omega) | rfl | trivial | assumption) | (simp only [rs_set, rw_set]; done) | (simp only [rs_set, rw_set] <;> (repeat' split) <;> first | (exfalso; omega) | rfl | trivial | assumption) | (simp only [rs_set, rw_set] <;> (repeat' split) <;> first | (exfalso; omega) | rfl | trivial | assumption | contradiction)), f, hPI, ⟨hfr, (by rw [show rw_set fS fC fF p0 p1 p2 = fF from (by first | (simp only [rs_set, rw_set, ↓hp_3, km17_, km14_, km11_, km1_, k1_, k13_, k16_, ↓reduceIte, and_self, and_true, true_and, and_false, false_and, or_self, or_true, true_or, or_false, false_or, not_true_eq_false, not_false_eq_true, eq_self, Int.reduceLE, Int.reduceLT, Int.reduceEq]; done) | (simp only [rs_set, rw_set, ↓hp_3, km17_, km14_, km11_, km1_, k1_, k13_, k16_, ↓reduceIte, and_self, and_true, true_and, and_false, false_and, or_self, or_true, true_or, or_false, false_or, not_true_eq_false, not_false_eq_true, eq_self, Int.reduceLE, Int.reduceLT, Int.reduceEq] <;> (repeat' split) <;> first | with_reducible rfl | with_reducible assumption | (exfalso; omega) | rfl | trivial | assumption) | (simp only [rs_set, rw_set]; done) | (simp only [rs_set, rw_set] <;> (repeat' split) <;> first | (exfalso; omega) | rfl | trivial | assumption) | (simp only [rs_set, rw_set] <;> (repeat' split) <;> first | (exfalso; omega) | rfl | trivial | assumption | contradiction))]; exact hRV)⟩, by rw [ht]; exact hP, hD⟩, hS.F ht⟩) hS.2.2 dX3_set_15
set_option maxRecDepth 20000 in
theorem in_v_X3_put_X3 : ∀ w ∈ u_ws RX3 TX3 23, w ∈ wsX3_put := by decide +kernel
set_option maxRecDepth 100000 in
set_option maxHeartbeats 4000000 in
theorem v_X3_put (l : Launch) (dC : Nat → ClassId) (dI : Nat → Nat → Nat) (TT : Nat × Nat × Nat) (sz : Nat) (kI kJ kZ : ClassId) (K : Nat → Nat) (L : List Nat) (f : Nat → va_E) (hPI : PR kI kJ kZ K L f) (g0 : Nat) (hg0 : isr K L 10 g0) (p0 : Int32) (p1 : Int32) (p2 : Int32) (hU : UN K L) (fS fC : Nat → Int32) (fF : Nat → Int64) (fR fW lo ld : Nat → Int32) (lv : Nat → Int64) (lm pa : Int32) (hRV : RV kI kJ K L f g0 fS fC fF fR fW lo ld lv lm pa) : Met l yX3_put wsX3_put ({ frames := 3, cells := 0, slots := 0, locals := 64 } : Room) (va_Pc [.ref g0, .int p0, .int p1, .int p2] (pr dC dI (va_pl L f) (va_pl L f) [(kI, .int), (kJ, .long), (kZ, .boolean)] sz TT)) (va_Qi (fun (r : Int32) (u : Unit) => r = rs_put fS fC fR fW p0 p1) (fun (_ : Unit) t => ∃ f2 : Nat → va_E, PR kI kJ kZ K L f2 ∧ (FR (sK [15]) K L f f2 ∧ RV kI kJ K L f2 g0 fS fC fF fR (rw_put fS fC fR fW p0 p1 p2) lo ld lv lm pa) ∧ va_P (dC, dI) vwCl (va_pl L f2) t.heap ∧ va_D (va_A (va_pl L f) sz) (va_pl L f2)) (va_A (va_pl L f) sz)) 0 0 (va_A (va_pl L f) sz) := by
  refine Met.ofW (cc := cX3_put) (maxL := 6) (ret := (some .int)) (by decide) rfl ?_
  intro p e s m args below meth c s₁ B hml hv
  obtain ⟨rfl, hsz, hP, hK, hD0, hst⟩ := hv
  have hx := B.exec
  have hb := B.bytes
  have hr := B.returns
  have hts := atoms_spec (ws := wsX3_put) B.pre
  have hown : s.vm.findClass RX3 = some m.cls := findClass_of_methodNamed B.named
  have hlocks := B.notSynchronized
  have iX3_ := in_v_X3_put_X3
  subst hsz
  have hD := hD0.self (sz := s.heap.size)
  generalize hAe : va_A (va_pl L f) s.heap.size = A at hD hst ⊢
  have hA : ∀ q : Nat, s.heap.size ≤ q → A q := fun q h => by rw [← hAe]; exact Or.inr h
  have hS : va_S A s.heap s.heap [] := va_S.rf
  have hl := lv_entry ([.ref g0, .int p0, .int p1, .int p2]) (n := 6) (Nat.le_of_ble_eq_true rfl)
  rw [lg_entry_eq]
  generalize (lg_sl ([.ref g0, .int p0, .int p1, .int p2]) ++ List.replicate (6 - (lg_sl ([.ref g0, .int p0, .int p1, .int p2])).length) Slot.unset).toArray = ls at hl ⊢
  have hl : lv_has ls 6 [(0, .ref g0), (1, .int p0), (2, .int p1), (3, .int p2)] := hl
  have km14_ : Int32.toInt (-14) = -14 := by decide
  have km12_ : Int32.toInt (-12) = -12 := by decide
  have km11_ : Int32.toInt (-11) = -11 := by decide
  have km1_ : Int32.toInt (-1) = -1 := by decide
  have k1_ : Int32.toInt 1 = 1 := by decide
  have kl0_ : Int64.toInt 0 = 0 := by decide
  have hfr : FR (sK [15]) K L f f := FR.rf
  (refine hPI.a10E hg0 ?_; intro s1_1 s2_1 s3_1 s4_1 s5_1 s6_1 s7_1 pa_1 lm_1 s8_1 s9_1 s10_1 fm_1 s11_1 nm_1 s12_1 s13_1 s14_1 rm_1 s15_1 s16_1 s17_1 s18_1 e_1 fs1_1 fs2_1 fs3_1 fs4_1 fs5_1 fs6_1 fs7_1 flm_1 fs8_1 fs9_1 fs10_1 ffm_1 fs11_1 fnm_1 fs12_1 fs13_1 fs14_1 frm_1 fs15_1 fs16_1 fs17_1 fs18_1)
  obtain ⟨k_1, hk_1⟩ := va_plg hg0.1 e_1
  have eg11 := hRV.1.1 s1_1 fs1_1
  have fg11 := (hPI.a11 fs1_1).of eg11
  have eg12 := hRV.1.2.1 s2_1 fs2_1
  have fg12 := (hPI.a12 fs2_1).of eg12
  have eg13 := hRV.1.2.2 s3_1 fs3_1
  have fg13 := (hPI.a13 fs3_1).of eg13
  have eg14 := hRV.2.1.1 s4_1 fs4_1
  have fg14 := (hPI.a14 fs4_1).of eg14
  have eg15 := hRV.2.1.2 s5_1 fs5_1
  have fg15 := (hPI.a15 fs5_1).of eg15
  have eg18 := hRV.2.2.1.1 s8_1 fs8_1
  have fg18 := (hPI.a18 fs8_1).of eg18
  have eg19 := hRV.2.2.1.2.1 s9_1 fs9_1
  have fg19 := (hPI.a19 fs9_1).of eg19
  have eg20 := hRV.2.2.1.2.2 s10_1 fs10_1
  have fg20 := (hPI.a20 fs10_1).of eg20
  obtain rfl : lm_1 = lm := (show cI (f g0) 8 = _ from by rw [e_1]; rfl).symm.trans hRV.2.2.2.1
  obtain rfl : pa_1 = pa := (show cI (f g0) 7 = _ from by rw [e_1]; rfl).symm.trans hRV.2.2.2.2
  refine lv_iload_n hx hb dX3_put_0 rfl (lv_at hl 1 rfl) ?_
  refine va_calli (va_runS (As := [.int p0]) (rest := []) ⟨hx, hb, hml, hown, hts⟩ (c_X3_isSlot l dC dI TT s.heap.size p0) (va_cwS 1 hts gX3_put_X3_isSlot rfl rfl rfl (by decide +kernel) ⟨Nat.le_of_ble_eq_true rfl, Nat.le_of_ble_eq_true rfl⟩) (pr_S (ws := []) (wA := []) (tys := []) vp_nil (hK.sub [] rfl) vd_nil hst hS (ro_free hS hA)) rfl rfl hl.1 rfl (lv_room (Nat.le_of_ble_eq_true rfl)) dX3_put_1 ⟨Nat.le_of_ble_eq_true rfl, Nat.le_of_ble_eq_true rfl⟩) hS (fun q _ h => (ro_free hS hA) q h) (ro_free hS hA) (fun r_2 u t H1 locs ht hvm hw hB hz1 hk1 hS => ?_)
  have hP := ro_keep hP hk1
  generalize H1 = H at hP hS ⊢
  rcases hw with ⟨rfl, hp_3⟩ | ⟨rfl, hp_3⟩
  · refine lv_if_ne (tgt := 9) hx hb dX3_put_4 (by decide) (fun _ => ?_) (fun c9 => absurd c9 (by decide))
    refine lv_aload_n hx hb dX3_put_9 rfl (lv_at hl 0 rfl) ?_
    refine lv_iload_n hx hb dX3_put_10 rfl (lv_at hl 1 rfl) ?_
    obtain ⟨k_4, hk_4⟩ := va_plg hg0.1 e_1
    refine va_calli (va_runV (b := g0) (As := [.int p0]) (rest := []) ⟨hx, hb, hml, hown, hts⟩ (v_X3_rowless l dC dI TT H.size kI kJ kZ K L f hPI g0 hg0 p0 (by constructor <;> omega) hU fS fC fF fR fW lo ld lv lm_1 pa_1 hRV) (cwV 1 hts gX3_put_X3_rowless rfl rfl rfl (by decide +kernel) ⟨Nat.le_of_ble_eq_true rfl, Nat.le_of_ble_eq_true rfl⟩) ⟨pr_blind, va_recv hK hP (ci := 3) rfl hk_4, (pr_S (ws := va_pl L f) (wA := []) (tys := [(kI, .int), (kJ, .long), (kZ, .boolean)]) hP hK vd_nil hst hS (ro_free hS hA)).2⟩ rfl rfl hl.1 rfl (lv_room (Nat.le_of_ble_eq_true rfl)) dX3_put_11 ⟨Nat.le_of_ble_eq_true rfl, Nat.le_of_ble_eq_true rfl⟩) hS (fun q _ h => (ro_free hS hA) q h) (ro_free hS hA) (fun r_5 u t H1 locs ht hvm hw hB hz1 hk1 hS => ?_)
    have hP := ro_keep hP hk1
    generalize H1 = H at hP hS ⊢
    rcases hw with ⟨rfl, hp_6⟩ | ⟨rfl, hp_6⟩ | ⟨rfl, hp_6⟩
    · refine lv_istore (lv' := [(4, .int 0), (0, .ref g0), (1, .int p0), (2, .int p1), (3, .int p2)]) hx hb dX3_put_14 hl (by decide) rfl (fun ls hl => ?_)
      refine lv_iload hx hb dX3_put_16 (lv_at hl 0 rfl) ?_
      refine lv_if_eq (tgt := 24) hx hb dX3_put_18 (by decide) (fun _ => ?_) (fun c9 => absurd c9 (by decide))
      refine lv_iload_n hx hb dX3_put_24 rfl (lv_at hl 3 rfl) ?_
      refine lv_i2l (v := Int32.toInt64 p1) hx hb dX3_put_25 rfl ?_
      have k_z_7 := Int32.toInt_toInt64 p1
      refine lv_lconst (v := 0) hx hb dX3_put_26 (by decide) ?_
      refine lv_aload_n hx hb dX3_put_27 rfl (lv_at hl 1 rfl) ?_
      obtain ⟨k_8, hk_8⟩ := va_plg hg0.1 e_1
      refine va_get (D := (dC, dI)) (ci := 3) (v := .ref s4_1) (C := RX3) (T := TX3) (N := 23) hx hb hts iX3_ hown hK hP k_8 hk_8 rfl 3 (by decide) (hts (.fieldLink RX3 21 "FieldLeavesModel" "rowSize" "[I") (by decide +kernel)) (fun _ h9 => h9) rfl dX3_put_28 ?_
      refine lv_aload_n hx hb dX3_put_31 rfl (lv_at hl 1 rfl) ?_
      obtain ⟨k_9, hk_9⟩ := va_plg hg0.1 e_1
      refine va_get (D := (dC, dI)) (ci := 3) (v := .ref s1_1) (C := RX3) (T := TX3) (N := 23) hx hb hts iX3_ hown hK hP k_9 hk_9 rfl 0 (by decide) (hts (.fieldLink RX3 7 "FieldLeavesModel" "slot" "[I") (by decide +kernel)) (fun _ h9 => h9) rfl dX3_put_32 ?_
      refine lv_iload_n hx hb dX3_put_35 rfl (lv_at hl 2 rfl) ?_
      obtain ⟨k_10, hk_10⟩ := va_plg fs1_1.1 eg11
      have h_10 : vp_in p0 12 := (vp_in_iff.mpr (by constructor <;> omega))
      refine va_iald hx hb hK hP k_10 0 hk_10 rfl h_10 dX3_put_36 ?_
      refine lv_topi (fun z_10 ez_10 => ?_)
      have fz_10 := fg11 _ (vp_lt h_10)
      rw [← ez_10] at fz_10
      have hdez_10 := congrArg Int32.toInt ez_10
      obtain ⟨k_11, hk_11⟩ := va_plg fs4_1.1 eg14
      have h_11 : vp_in z_10 6400 := (vp_in_iff.mpr (by constructor <;> omega))
      refine va_iald hx hb hK hP k_11 0 hk_11 rfl h_11 dX3_put_37 ?_
      refine lv_topi (fun z_11 ez_11 => ?_)
      have fz_11 := fg14 _ (vp_lt h_11)
      rw [← ez_11] at fz_11
      have hdez_11 := congrArg Int32.toInt ez_11
      refine lv_iconst (v := 1) hx hb dX3_put_38 (by decide) ?_
      refine lv_isub hx hb dX3_put_39 ?_
      refine lv_topi (fun z_12 ez_12 => ?_)
      have kz_12 := sub_toInt2 ez_12 (by omega) (by omega)
      refine lv_i2l (v := Int32.toInt64 z_12) hx hb dX3_put_40 rfl ?_
      have k_z_13 := Int32.toInt_toInt64 z_12
      refine va_calli (va_runS (As := [.long (Int32.toInt64 p1), .long 0, .long (Int32.toInt64 z_12)]) (rest := []) ⟨hx, hb, hml, hown, hts⟩ (c_X3_in l dC dI TT H.size (Int32.toInt64 p1) 0 (Int32.toInt64 z_12)) (va_cwS 3 hts gX3_put_X3_in rfl rfl rfl (by decide +kernel) ⟨Nat.le_of_ble_eq_true rfl, Nat.le_of_ble_eq_true rfl⟩) (pr_S (ws := []) (wA := []) (tys := []) vp_nil (hK.sub [] rfl) vd_nil hst hS (ro_free hS hA)) rfl rfl hl.1 rfl (lv_room (Nat.le_of_ble_eq_true rfl)) dX3_put_41 ⟨Nat.le_of_ble_eq_true rfl, Nat.le_of_ble_eq_true rfl⟩) hS (fun q _ h => (ro_free hS hA) q h) (ro_free hS hA) (fun r_14 u t H1 locs ht hvm hw hB hz1 hk1 hS => ?_)
      have hP := ro_keep hP hk1
      generalize H1 = H at hP hS ⊢
      rcases hw with ⟨rfl, hp_15⟩ | ⟨rfl, hp_15⟩
      · refine lv_if_ne (tgt := 50) hx hb dX3_put_44 (by decide) (fun _ => ?_) (fun c9 => absurd c9 (by decide))
        refine lv_aload_n hx hb dX3_put_50 rfl (lv_at hl 1 rfl) ?_
        obtain ⟨k_16, hk_16⟩ := va_plg hg0.1 e_1
        refine va_get (D := (dC, dI)) (ci := 3) (v := .ref s5_1) (C := RX3) (T := TX3) (N := 23) hx hb hts iX3_ hown hK hP k_16 hk_16 rfl 4 (by decide) (hts (.fieldLink RX3 25 "FieldLeavesModel" "rows" "[I") (by decide +kernel)) (fun _ h9 => h9) rfl dX3_put_51 ?_
        refine lv_bipush (v := 20) hx hb dX3_put_54 (by decide) ?_
        refine lv_aload_n hx hb dX3_put_56 rfl (lv_at hl 1 rfl) ?_
        obtain ⟨k_17, hk_17⟩ := va_plg hg0.1 e_1
        refine va_get (D := (dC, dI)) (ci := 3) (v := .ref s1_1) (C := RX3) (T := TX3) (N := 23) hx hb hts iX3_ hown hK hP k_17 hk_17 rfl 0 (by decide) (hts (.fieldLink RX3 7 "FieldLeavesModel" "slot" "[I") (by decide +kernel)) (fun _ h9 => h9) rfl dX3_put_57 ?_
        refine lv_iload_n hx hb dX3_put_60 rfl (lv_at hl 2 rfl) ?_
        obtain ⟨k_18, hk_18⟩ := va_plg fs1_1.1 eg11
        have h_18 : vp_in p0 12 := (vp_in_iff.mpr (by constructor <;> omega))
        refine va_iald hx hb hK hP k_18 0 hk_18 rfl h_18 dX3_put_61 ?_
        refine lv_topi (fun z_18 ez_18 => ?_)
        obtain rfl : z_10 = z_18 := ez_10.trans ez_18.symm
        refine lv_imul hx hb dX3_put_62 ?_
        refine lv_topi (fun z_19 ez_19 => ?_)
        have kz_19 := mul20 ez_19 (by omega) (by omega)
        refine lv_iload_n hx hb dX3_put_63 rfl (lv_at hl 3 rfl) ?_
        refine lv_iadd hx hb dX3_put_64 ?_
        refine lv_topi (fun z_20 ez_20 => ?_)
        have kz_20 := add_toInt ez_20 (by omega) (by omega)
        obtain ⟨k_21, hk_21⟩ := va_plg fs5_1.1 eg15
        have h_21 : vp_in z_20 128000 := (vp_in_iff.mpr (by constructor <;> omega))
        refine va_iald hx hb hK hP k_21 0 hk_21 rfl h_21 dX3_put_65 ?_
        refine lv_topi (fun z_21 ez_21 => ?_)
        have er_22 := ez_21
        rw [idx20 (o := z_10) (f := p1) (w := z_20) (by omega) (by omega) (by omega)] at er_22
        have hder_22 := congrArg Int32.toInt er_22
        refine lv_istore (lv' := [(5, .int z_21), (4, .int 0), (0, .ref g0), (1, .int p0), (2, .int p1), (3, .int p2)]) hx hb dX3_put_66 hl (by decide) rfl (fun ls hl => ?_)
        refine lv_aload_n hx hb dX3_put_68 rfl (lv_at hl 2 rfl) ?_
        obtain ⟨k_23, hk_23⟩ := va_plg hg0.1 e_1
        refine va_get (D := (dC, dI)) (ci := 3) (v := .ref s5_1) (C := RX3) (T := TX3) (N := 23) hx hb hts iX3_ hown hK hP k_23 hk_23 rfl 4 (by decide) (hts (.fieldLink RX3 25 "FieldLeavesModel" "rows" "[I") (by decide +kernel)) (fun _ h9 => h9) rfl dX3_put_69 ?_
        refine lv_bipush (v := 20) hx hb dX3_put_72 (by decide) ?_
        refine lv_aload_n hx hb dX3_put_74 rfl (lv_at hl 2 rfl) ?_
        obtain ⟨k_24, hk_24⟩ := va_plg hg0.1 e_1
        refine va_get (D := (dC, dI)) (ci := 3) (v := .ref s1_1) (C := RX3) (T := TX3) (N := 23) hx hb hts iX3_ hown hK hP k_24 hk_24 rfl 0 (by decide) (hts (.fieldLink RX3 7 "FieldLeavesModel" "slot" "[I") (by decide +kernel)) (fun _ h9 => h9) rfl dX3_put_75 ?_
        refine lv_iload_n hx hb dX3_put_78 rfl (lv_at hl 3 rfl) ?_
        obtain ⟨k_25, hk_25⟩ := va_plg fs1_1.1 eg11
        have h_25 : vp_in p0 12 := (vp_in_iff.mpr (by constructor <;> omega))
        refine va_iald hx hb hK hP k_25 0 hk_25 rfl h_25 dX3_put_79 ?_
        refine lv_topi (fun z_25 ez_25 => ?_)
        obtain rfl : z_10 = z_25 := ez_10.trans ez_25.symm
        refine lv_imul hx hb dX3_put_80 ?_
        refine lv_topi (fun z_26 ez_26 => ?_)
        have kz_26 := mul20 ez_26 (by omega) (by omega)
        refine lv_iload_n hx hb dX3_put_81 rfl (lv_at hl 4 rfl) ?_
        refine lv_iadd hx hb dX3_put_82 ?_
        refine lv_topi (fun z_27 ez_27 => ?_)
        have kz_27 := add_toInt ez_27 (by omega) (by omega)
        refine lv_iload_n hx hb dX3_put_83 rfl (lv_at hl 5 rfl) ?_
        obtain ⟨k_28, hk_28⟩ := va_plg fs5_1.1 eg15
        have hq_i_29 := idx20 (o := z_10) (f := p1) (w := z_27) (by omega) (by omega) (by omega)
        have h_28 : vp_in z_27 128000 := (vp_in_iff.mpr (by constructor <;> omega))
        have fw_28 := trivial
        have hD9 := hD
        refine va_iast hx hb hK hP hD hS k_28 0 hk_28 rfl h_28 dX3_put_84 (fun H locs hP hD hS => ?_)
        have hP : va_P (dC, dI) vwCl (va_pl L (va_up f s5_1 (.inl (kI, 128000, .inl (upd fW (Int32.toNatClampNeg z_27) p2))))) H := by rw [← va_pls hD9 fs5_1.1 hk_28 _]; exact hP
        have hD : va_D A (va_pl L (va_up f s5_1 (.inl (kI, 128000, .inl (upd fW (Int32.toNatClampNeg z_27) p2))))) := by rw [← va_pls hD9 fs5_1.1 hk_28 _]; exact hD
        have hPI := hPI.put (e := .inl (kI, 128000, .inl (upd fW (Int32.toNatClampNeg z_27) p2))) fs5_1 ⟨_, rfl, fw_28⟩
        have es_f_30 : va_up f s5_1 (.inl (kI, 128000, .inl (upd fW (Int32.toNatClampNeg z_27) p2))) s5_1 = .inl (kI, 128000, .inl (upd fW (Int32.toNatClampNeg z_27) p2)) := va_up_self _ _ _
        have eq_31 := (va_up_ne f (.inl (kI, 128000, .inl (upd fW (Int32.toNatClampNeg z_27) p2))) (isr_ne hg0 fs5_1 (by decide))).trans e_1
        have eq_32 := (va_up_ne f (.inl (kI, 128000, .inl (upd fW (Int32.toNatClampNeg z_27) p2))) (isr_ne fs1_1 fs5_1 (by decide))).trans eg11
        have eq_33 := (va_up_ne f (.inl (kI, 128000, .inl (upd fW (Int32.toNatClampNeg z_27) p2))) (isr_ne fs2_1 fs5_1 (by decide))).trans eg12
        have eq_34 := (va_up_ne f (.inl (kI, 128000, .inl (upd fW (Int32.toNatClampNeg z_27) p2))) (isr_ne fs3_1 fs5_1 (by decide))).trans eg13
        have eq_35 := (va_up_ne f (.inl (kI, 128000, .inl (upd fW (Int32.toNatClampNeg z_27) p2))) (isr_ne fs4_1 fs5_1 (by decide))).trans eg14
        have eq_36 := (va_up_ne f (.inl (kI, 128000, .inl (upd fW (Int32.toNatClampNeg z_27) p2))) (isr_ne fs8_1 fs5_1 (by decide))).trans eg18
        have eq_37 := (va_up_ne f (.inl (kI, 128000, .inl (upd fW (Int32.toNatClampNeg z_27) p2))) (isr_ne fs9_1 fs5_1 (by decide))).trans eg19
        have eq_38 := (va_up_ne f (.inl (kI, 128000, .inl (upd fW (Int32.toNatClampNeg z_27) p2))) (isr_ne fs10_1 fs5_1 (by decide))).trans eg20
        have hfr := fr_up (S := (sK [15])) (e := .inl (kI, 128000, .inl (upd fW (Int32.toNatClampNeg z_27) p2))) hfr fs5_1 (by decide)
        generalize hg_f_30 : va_up f s5_1 (.inl (kI, 128000, .inl (upd fW (Int32.toNatClampNeg z_27) p2))) = f_30 at hP hD hPI es_f_30 eq_31 eq_32 eq_33 eq_34 eq_35 eq_36 eq_37 eq_38 hfr
        refine lv_iload hx hb dX3_put_85 (lv_at hl 0 rfl) ?_
        exact W.iret (v := z_21) hx hb hr (fun t ht hW => ⟨⟨z_21, (), rfl, (by first | (simp only [rs_put, rw_put, ← ez_10, ← ez_11, ← ez_12, ← ez_19, ← ez_20, ← er_22, ← ez_26, ← ez_27, hq_i_29, ↓hp_3, ↓hp_6, ↓hp_15, km14_, km12_, km11_, km1_, k1_, ↓reduceIte, and_self, and_true, true_and, and_false, false_and, or_self, or_true, true_or, or_false, false_or, not_true_eq_false, not_false_eq_true, eq_self, Int.reduceLE, Int.reduceLT, Int.reduceEq]; done) | (simp only [rs_put, rw_put, ← ez_10, ← ez_11, ← ez_12, ← ez_19, ← ez_20, ← er_22, ← ez_26, ← ez_27, hq_i_29, ↓hp_3, ↓hp_6, ↓hp_15, km14_, km12_, km11_, km1_, k1_, ↓reduceIte, and_self, and_true, true_and, and_false, false_and, or_self, or_true, true_or, or_false, false_or, not_true_eq_false, not_false_eq_true, eq_self, Int.reduceLE, Int.reduceLT, Int.reduceEq] <;> (repeat' split) <;> first | with_reducible rfl | with_reducible assumption | (exfalso; omega) | rfl | trivial | assumption) | (simp only [rs_put, rw_put, ← ez_10, ← ez_11, ← ez_12, ← ez_19, ← ez_20, ← er_22, ← ez_26, ← ez_27, hq_i_29]; done) | (simp only [rs_put, rw_put, ← ez_10, ← ez_11, ← ez_12, ← ez_19, ← ez_20, ← er_22, ← ez_26, ← ez_27, hq_i_29] <;> (repeat' split) <;> first | (exfalso; omega) | rfl | trivial | assumption) | (simp only [rs_put, rw_put, ez_10, ez_11, ez_12, ez_19, ez_20, er_22, ez_26, ez_27, hq_i_29] <;> (repeat' split) <;> first | (exfalso; omega) | rfl | trivial | assumption | contradiction) | (subst ez_10 ez_11 ez_12 ez_19 ez_20 ez_26 ez_27; simp only [rs_put, rw_put, hq_i_29] <;> (repeat' split) <;> first | (exfalso; omega) | rfl | trivial | assumption)), f_30, hPI, ⟨hfr, (by rw [show rw_put fS fC fR fW p0 p1 p2 = (upd fW (Int32.toNatClampNeg z_27) p2) from (by first | (simp only [rs_put, rw_put, ← ez_10, ← ez_11, ← ez_12, ← ez_19, ← ez_20, ← er_22, ← ez_26, ← ez_27, hq_i_29, ↓hp_3, ↓hp_6, ↓hp_15, km14_, km12_, km11_, km1_, k1_, ↓reduceIte, and_self, and_true, true_and, and_false, false_and, or_self, or_true, true_or, or_false, false_or, not_true_eq_false, not_false_eq_true, eq_self, Int.reduceLE, Int.reduceLT, Int.reduceEq]; done) | (simp only [rs_put, rw_put, ← ez_10, ← ez_11, ← ez_12, ← ez_19, ← ez_20, ← er_22, ← ez_26, ← ez_27, hq_i_29, ↓hp_3, ↓hp_6, ↓hp_15, km14_, km12_, km11_, km1_, k1_, ↓reduceIte, and_self, and_true, true_and, and_false, false_and, or_self, or_true, true_or, or_false, false_or, not_true_eq_false, not_false_eq_true, eq_self, Int.reduceLE, Int.reduceLT, Int.reduceEq] <;> (repeat' split) <;> first | with_reducible rfl | with_reducible assumption | (exfalso; omega) | rfl | trivial | assumption) | (simp only [rs_put, rw_put, ← ez_10, ← ez_11, ← ez_12, ← ez_19, ← ez_20, ← er_22, ← ez_26, ← ez_27, hq_i_29]; done) | (simp only [rs_put, rw_put, ← ez_10, ← ez_11, ← ez_12, ← ez_19, ← ez_20, ← er_22, ← ez_26, ← ez_27, hq_i_29] <;> (repeat' split) <;> first | (exfalso; omega) | rfl | trivial | assumption) | (simp only [rs_put, rw_put, ez_10, ez_11, ez_12, ez_19, ez_20, er_22, ez_26, ez_27, hq_i_29] <;> (repeat' split) <;> first | (exfalso; omega) | rfl | trivial | assumption | contradiction) | (subst ez_10 ez_11 ez_12 ez_19 ez_20 ez_26 ez_27; simp only [rs_put, rw_put, hq_i_29] <;> (repeat' split) <;> first | (exfalso; omega) | rfl | trivial | assumption))]; exact ⟨SV.mk hU fs1_1 fs2_1 fs3_1 eq_32 eq_33 eq_34, ⟨un_row hU fs4_1 eq_35, un_row hU fs5_1 es_f_30⟩, ⟨un_row hU fs8_1 eq_36, un_row hU fs9_1 eq_37, un_row hU fs10_1 eq_38⟩, (by rw [eq_31]; rfl), (by rw [eq_31]; rfl)⟩)⟩, by rw [ht]; exact hP, hD⟩, hS.F ht⟩) hS.2.2 dX3_put_87
      · refine lv_if_ne (tgt := 50) hx hb dX3_put_44 (by decide) (fun c9 => absurd c9 (by decide)) (fun _ => ?_)
        refine lv_bipush (v := (-12)) hx hb dX3_put_47 (by decide) ?_
        exact W.iret (v := (-12)) hx hb hr (fun t ht hW => ⟨⟨(-12), (), rfl, (by first | (simp only [rs_put, rw_put, ← ez_10, ← ez_11, ← ez_12, ↓hp_3, ↓hp_6, ↓hp_15, km14_, km12_, km11_, km1_, k1_, ↓reduceIte, and_self, and_true, true_and, and_false, false_and, or_self, or_true, true_or, or_false, false_or, not_true_eq_false, not_false_eq_true, eq_self, Int.reduceLE, Int.reduceLT, Int.reduceEq]; done) | (simp only [rs_put, rw_put, ← ez_10, ← ez_11, ← ez_12, ↓hp_3, ↓hp_6, ↓hp_15, km14_, km12_, km11_, km1_, k1_, ↓reduceIte, and_self, and_true, true_and, and_false, false_and, or_self, or_true, true_or, or_false, false_or, not_true_eq_false, not_false_eq_true, eq_self, Int.reduceLE, Int.reduceLT, Int.reduceEq] <;> (repeat' split) <;> first | with_reducible rfl | with_reducible assumption | (exfalso; omega) | rfl | trivial | assumption) | (simp only [rs_put, rw_put, ← ez_10, ← ez_11, ← ez_12]; done) | (simp only [rs_put, rw_put, ← ez_10, ← ez_11, ← ez_12] <;> (repeat' split) <;> first | (exfalso; omega) | rfl | trivial | assumption) | (simp only [rs_put, rw_put, ez_10, ez_11, ez_12] <;> (repeat' split) <;> first | (exfalso; omega) | rfl | trivial | assumption | contradiction) | (subst ez_10 ez_11 ez_12; simp only [rs_put, rw_put] <;> (repeat' split) <;> first | (exfalso; omega) | rfl | trivial | assumption)), f, hPI, ⟨hfr, (by rw [show rw_put fS fC fR fW p0 p1 p2 = fW from (by first | (simp only [rs_put, rw_put, ← ez_10, ← ez_11, ← ez_12, ↓hp_3, ↓hp_6, ↓hp_15, km14_, km12_, km11_, km1_, k1_, ↓reduceIte, and_self, and_true, true_and, and_false, false_and, or_self, or_true, true_or, or_false, false_or, not_true_eq_false, not_false_eq_true, eq_self, Int.reduceLE, Int.reduceLT, Int.reduceEq]; done) | (simp only [rs_put, rw_put, ← ez_10, ← ez_11, ← ez_12, ↓hp_3, ↓hp_6, ↓hp_15, km14_, km12_, km11_, km1_, k1_, ↓reduceIte, and_self, and_true, true_and, and_false, false_and, or_self, or_true, true_or, or_false, false_or, not_true_eq_false, not_false_eq_true, eq_self, Int.reduceLE, Int.reduceLT, Int.reduceEq] <;> (repeat' split) <;> first | with_reducible rfl | with_reducible assumption | (exfalso; omega) | rfl | trivial | assumption) | (simp only [rs_put, rw_put, ← ez_10, ← ez_11, ← ez_12]; done) | (simp only [rs_put, rw_put, ← ez_10, ← ez_11, ← ez_12] <;> (repeat' split) <;> first | (exfalso; omega) | rfl | trivial | assumption) | (simp only [rs_put, rw_put, ez_10, ez_11, ez_12] <;> (repeat' split) <;> first | (exfalso; omega) | rfl | trivial | assumption | contradiction) | (subst ez_10 ez_11 ez_12; simp only [rs_put, rw_put] <;> (repeat' split) <;> first | (exfalso; omega) | rfl | trivial | assumption))]; exact hRV)⟩, by rw [ht]; exact hP, hD⟩, hS.F ht⟩) hS.2.2 dX3_put_49
    · refine lv_istore (lv' := [(4, .int (-14)), (0, .ref g0), (1, .int p0), (2, .int p1), (3, .int p2)]) hx hb dX3_put_14 hl (by decide) rfl (fun ls hl => ?_)
      refine lv_iload hx hb dX3_put_16 (lv_at hl 0 rfl) ?_
      refine lv_if_eq (tgt := 24) hx hb dX3_put_18 (by decide) (fun c9 => absurd c9 (by decide)) (fun _ => ?_)
      refine lv_iload hx hb dX3_put_21 (lv_at hl 0 rfl) ?_
      exact W.iret (v := (-14)) hx hb hr (fun t ht hW => ⟨⟨(-14), (), rfl, (by first | (simp only [rs_put, rw_put, ↓hp_3, ↓hp_6, km14_, km12_, km11_, km1_, k1_, ↓reduceIte, and_self, and_true, true_and, and_false, false_and, or_self, or_true, true_or, or_false, false_or, not_true_eq_false, not_false_eq_true, eq_self, Int.reduceLE, Int.reduceLT, Int.reduceEq]; done) | (simp only [rs_put, rw_put, ↓hp_3, ↓hp_6, km14_, km12_, km11_, km1_, k1_, ↓reduceIte, and_self, and_true, true_and, and_false, false_and, or_self, or_true, true_or, or_false, false_or, not_true_eq_false, not_false_eq_true, eq_self, Int.reduceLE, Int.reduceLT, Int.reduceEq] <;> (repeat' split) <;> first | with_reducible rfl | with_reducible assumption | (exfalso; omega) | rfl | trivial | assumption) | (simp only [rs_put, rw_put]; done) | (simp only [rs_put, rw_put] <;> (repeat' split) <;> first | (exfalso; omega) | rfl | trivial | assumption) | (simp only [rs_put, rw_put] <;> (repeat' split) <;> first | (exfalso; omega) | rfl | trivial | assumption | contradiction)), f, hPI, ⟨hfr, (by rw [show rw_put fS fC fR fW p0 p1 p2 = fW from (by first | (simp only [rs_put, rw_put, ↓hp_3, ↓hp_6, km14_, km12_, km11_, km1_, k1_, ↓reduceIte, and_self, and_true, true_and, and_false, false_and, or_self, or_true, true_or, or_false, false_or, not_true_eq_false, not_false_eq_true, eq_self, Int.reduceLE, Int.reduceLT, Int.reduceEq]; done) | (simp only [rs_put, rw_put, ↓hp_3, ↓hp_6, km14_, km12_, km11_, km1_, k1_, ↓reduceIte, and_self, and_true, true_and, and_false, false_and, or_self, or_true, true_or, or_false, false_or, not_true_eq_false, not_false_eq_true, eq_self, Int.reduceLE, Int.reduceLT, Int.reduceEq] <;> (repeat' split) <;> first | with_reducible rfl | with_reducible assumption | (exfalso; omega) | rfl | trivial | assumption) | (simp only [rs_put, rw_put]; done) | (simp only [rs_put, rw_put] <;> (repeat' split) <;> first | (exfalso; omega) | rfl | trivial | assumption) | (simp only [rs_put, rw_put] <;> (repeat' split) <;> first | (exfalso; omega) | rfl | trivial | assumption | contradiction))]; exact hRV)⟩, by rw [ht]; exact hP, hD⟩, hS.F ht⟩) hS.2.2 dX3_put_23
    · refine lv_istore (lv' := [(4, .int (-11)), (0, .ref g0), (1, .int p0), (2, .int p1), (3, .int p2)]) hx hb dX3_put_14 hl (by decide) rfl (fun ls hl => ?_)
      refine lv_iload hx hb dX3_put_16 (lv_at hl 0 rfl) ?_
      refine lv_if_eq (tgt := 24) hx hb dX3_put_18 (by decide) (fun c9 => absurd c9 (by decide)) (fun _ => ?_)
      refine lv_iload hx hb dX3_put_21 (lv_at hl 0 rfl) ?_
      exact W.iret (v := (-11)) hx hb hr (fun t ht hW => ⟨⟨(-11), (), rfl, (by first | (simp only [rs_put, rw_put, ↓hp_3, ↓hp_6, km14_, km12_, km11_, km1_, k1_, ↓reduceIte, and_self, and_true, true_and, and_false, false_and, or_self, or_true, true_or, or_false, false_or, not_true_eq_false, not_false_eq_true, eq_self, Int.reduceLE, Int.reduceLT, Int.reduceEq]; done) | (simp only [rs_put, rw_put, ↓hp_3, ↓hp_6, km14_, km12_, km11_, km1_, k1_, ↓reduceIte, and_self, and_true, true_and, and_false, false_and, or_self, or_true, true_or, or_false, false_or, not_true_eq_false, not_false_eq_true, eq_self, Int.reduceLE, Int.reduceLT, Int.reduceEq] <;> (repeat' split) <;> first | with_reducible rfl | with_reducible assumption | (exfalso; omega) | rfl | trivial | assumption) | (simp only [rs_put, rw_put]; done) | (simp only [rs_put, rw_put] <;> (repeat' split) <;> first | (exfalso; omega) | rfl | trivial | assumption) | (simp only [rs_put, rw_put] <;> (repeat' split) <;> first | (exfalso; omega) | rfl | trivial | assumption | contradiction)), f, hPI, ⟨hfr, (by rw [show rw_put fS fC fR fW p0 p1 p2 = fW from (by first | (simp only [rs_put, rw_put, ↓hp_3, ↓hp_6, km14_, km12_, km11_, km1_, k1_, ↓reduceIte, and_self, and_true, true_and, and_false, false_and, or_self, or_true, true_or, or_false, false_or, not_true_eq_false, not_false_eq_true, eq_self, Int.reduceLE, Int.reduceLT, Int.reduceEq]; done) | (simp only [rs_put, rw_put, ↓hp_3, ↓hp_6, km14_, km12_, km11_, km1_, k1_, ↓reduceIte, and_self, and_true, true_and, and_false, false_and, or_self, or_true, true_or, or_false, false_or, not_true_eq_false, not_false_eq_true, eq_self, Int.reduceLE, Int.reduceLT, Int.reduceEq] <;> (repeat' split) <;> first | with_reducible rfl | with_reducible assumption | (exfalso; omega) | rfl | trivial | assumption) | (simp only [rs_put, rw_put]; done) | (simp only [rs_put, rw_put] <;> (repeat' split) <;> first | (exfalso; omega) | rfl | trivial | assumption) | (simp only [rs_put, rw_put] <;> (repeat' split) <;> first | (exfalso; omega) | rfl | trivial | assumption | contradiction))]; exact hRV)⟩, by rw [ht]; exact hP, hD⟩, hS.F ht⟩) hS.2.2 dX3_put_23
  · refine lv_if_ne (tgt := 9) hx hb dX3_put_4 (by decide) (fun c9 => absurd c9 (by decide)) (fun _ => ?_)
    refine lv_iconst (v := (-1)) hx hb dX3_put_7 (by decide) ?_
    exact W.iret (v := (-1)) hx hb hr (fun t ht hW => ⟨⟨(-1), (), rfl, (by first | (simp only [rs_put, rw_put, ↓hp_3, km14_, km12_, km11_, km1_, k1_, ↓reduceIte, and_self, and_true, true_and, and_false, false_and, or_self, or_true, true_or, or_false, false_or, not_true_eq_false, not_false_eq_true, eq_self, Int.reduceLE, Int.reduceLT, Int.reduceEq]; done) | (simp only [rs_put, rw_put, ↓hp_3, km14_, km12_, km11_, km1_, k1_, ↓reduceIte, and_self, and_true, true_and, and_false, false_and, or_self, or_true, true_or, or_false, false_or, not_true_eq_false, not_false_eq_true, eq_self, Int.reduceLE, Int.reduceLT, Int.reduceEq] <;> (repeat' split) <;> first | with_reducible rfl | with_reducible assumption | (exfalso; omega) | rfl | trivial | assumption) | (simp only [rs_put, rw_put]; done) | (simp only [rs_put, rw_put] <;> (repeat' split) <;> first | (exfalso; omega) | rfl | trivial | assumption) | (simp only [rs_put, rw_put] <;> (repeat' split) <;> first | (exfalso; omega) | rfl | trivial | assumption | contradiction)), f, hPI, ⟨hfr, (by rw [show rw_put fS fC fR fW p0 p1 p2 = fW from (by first | (simp only [rs_put, rw_put, ↓hp_3, km14_, km12_, km11_, km1_, k1_, ↓reduceIte, and_self, and_true, true_and, and_false, false_and, or_self, or_true, true_or, or_false, false_or, not_true_eq_false, not_false_eq_true, eq_self, Int.reduceLE, Int.reduceLT, Int.reduceEq]; done) | (simp only [rs_put, rw_put, ↓hp_3, km14_, km12_, km11_, km1_, k1_, ↓reduceIte, and_self, and_true, true_and, and_false, false_and, or_self, or_true, true_or, or_false, false_or, not_true_eq_false, not_false_eq_true, eq_self, Int.reduceLE, Int.reduceLT, Int.reduceEq] <;> (repeat' split) <;> first | with_reducible rfl | with_reducible assumption | (exfalso; omega) | rfl | trivial | assumption) | (simp only [rs_put, rw_put]; done) | (simp only [rs_put, rw_put] <;> (repeat' split) <;> first | (exfalso; omega) | rfl | trivial | assumption) | (simp only [rs_put, rw_put] <;> (repeat' split) <;> first | (exfalso; omega) | rfl | trivial | assumption | contradiction))]; exact hRV)⟩, by rw [ht]; exact hP, hD⟩, hS.F ht⟩) hS.2.2 dX3_put_8

