set_option maxRecDepth 20000 in
theorem in_v_X3_row_X3 : ∀ w ∈ u_ws RX3 TX3 23, w ∈ wsX3_row := by decide +kernel
set_option maxRecDepth 100000 in
set_option maxHeartbeats 4000000 in
theorem v_X3_row (l : Launch) (dC : Nat → ClassId) (dI : Nat → Nat → Nat) (TT : Nat × Nat × Nat) (sz : Nat) (kI kJ kZ : ClassId) (K : Nat → Nat) (L : List Nat) (f : Nat → va_E) (hPI : PR kI kJ kZ K L f) (g0 : Nat) (hg0 : isr K L 10 g0) (p0 : Int32) (p1 : Int32) (hU : UN K L) (fS fC : Nat → Int32) (fF : Nat → Int64) (fR fW lo ld : Nat → Int32) (lv : Nat → Int64) (lm pa : Int32) (hRV : RV kI kJ K L f g0 fS fC fF fR fW lo ld lv lm pa) : Met l yX3_row wsX3_row ({ frames := 2, cells := 0, slots := 0, locals := 45 } : Room) (va_Pc [.ref g0, .int p0, .int p1] (pr dC dI (va_pl L f) (va_pl L f) [(kI, .int), (kJ, .long), (kZ, .boolean)] sz TT)) (va_Qi (fun (r : Int32) (u : Unit) => r = rs_row fS fC p0 p1) (fun (_ : Unit) t => ∃ f2 : Nat → va_E, PR kI kJ kZ K L f2 ∧ (FR (sK [14, 15]) K L f f2 ∧ RV kI kJ K L f2 g0 fS fC fF (rw_rowR fS fC fR p0 p1) (rw_rowW fS fC fW p0 p1) lo ld lv lm pa) ∧ va_P (dC, dI) vwCl (va_pl L f2) t.heap ∧ va_D (va_A (va_pl L f) sz) (va_pl L f2)) (va_A (va_pl L f) sz)) 0 0 (va_A (va_pl L f) sz) := by
  refine Met.ofW (cc := cX3_row) (maxL := 4) (ret := (some .int)) (by decide) rfl ?_
  intro p e s m args below meth c s₁ B hml hv
  obtain ⟨rfl, hsz, hP, hK, hD0, hst⟩ := hv
  have hx := B.exec
  have hb := B.bytes
  have hr := B.returns
  have hts := atoms_spec (ws := wsX3_row) B.pre
  have hown : s.vm.findClass RX3 = some m.cls := findClass_of_methodNamed B.named
  have hlocks := B.notSynchronized
  have iX3_ := in_v_X3_row_X3
  subst hsz
  have hD := hD0.self (sz := s.heap.size)
  generalize hAe : va_A (va_pl L f) s.heap.size = A at hD hst ⊢
  have hA : ∀ q : Nat, s.heap.size ≤ q → A q := fun q h => by rw [← hAe]; exact Or.inr h
  have hS : va_S A s.heap s.heap [] := va_S.rf
  have hl := lv_entry ([.ref g0, .int p0, .int p1]) (n := 4) (Nat.le_of_ble_eq_true rfl)
  rw [lg_entry_eq]
  generalize (lg_sl ([.ref g0, .int p0, .int p1]) ++ List.replicate (4 - (lg_sl ([.ref g0, .int p0, .int p1])).length) Slot.unset).toArray = ls at hl ⊢
  have hl : lv_has ls 4 [(0, .ref g0), (1, .int p0), (2, .int p1)] := hl
  have km14_ : Int32.toInt (-14) = -14 := by decide
  have km13_ : Int32.toInt (-13) = -13 := by decide
  have km11_ : Int32.toInt (-11) = -11 := by decide
  have km4_ : Int32.toInt (-4) = -4 := by decide
  have km1_ : Int32.toInt (-1) = -1 := by decide
  have k0_ : Int32.toInt 0 = 0 := by decide
  have k9_ : Int32.toInt 9 = 9 := by decide
  have k20_ : Int32.toInt 20 = 20 := by decide
  have hfr : FR (sK [14, 15]) K L f f := FR.rf
  have cl_0 : Int32.toNatClampNeg 0 = 0 := by decide
  refine W_nameQ (fun Q0 eQ => ?_)
  obtain ⟨s1_1, s2_1, s3_1, s4_1, s5_1, s6_1, s7_1, pa_1, lm_1, s8_1, s9_1, s10_1, fm_1, s11_1, nm_1, s12_1, s13_1, s14_1, rm_1, s15_1, s16_1, s17_1, s18_1, e_1, fs1_1, fs2_1, fs3_1, fs4_1, fs5_1, fs6_1, fs7_1, flm_1, fs8_1, fs9_1, fs10_1, ffm_1, fs11_1, fnm_1, fs12_1, fs13_1, fs14_1, frm_1, fs15_1, fs16_1, fs17_1, fs18_1⟩ := hPI.a10 hg0
  obtain ⟨k_1, hk_1⟩ := va_plg hg0.1 e_1
  have eg11 := hRV.1.1 s1_1 fs1_1
  have fg11 := (hPI.a11 fs1_1).of eg11
  have eg12 := hRV.1.2.1 s2_1 fs2_1
  have fg12 := (hPI.a12 fs2_1).of eg12
  have eg13 := hRV.1.2.2 s3_1 fs3_1
  have fg13 := (hPI.a13 fs3_1).of eg13
  have eg14 := hRV.2.1.1 s4_1 fs4_1
  have fg14 := (hPI.a14 fs4_1).of eg14
  have eg15 := hRV.2.1.2 s5_1 fs5_1
  have fg15 := (hPI.a15 fs5_1).of eg15
  have eg18 := hRV.2.2.1.1 s8_1 fs8_1
  have fg18 := (hPI.a18 fs8_1).of eg18
  have eg19 := hRV.2.2.1.2.1 s9_1 fs9_1
  have fg19 := (hPI.a19 fs9_1).of eg19
  have eg20 := hRV.2.2.1.2.2 s10_1 fs10_1
  have fg20 := (hPI.a20 fs10_1).of eg20
  obtain rfl : lm_1 = lm := (show cI (f g0) 8 = _ from by rw [e_1]; rfl).symm.trans hRV.2.2.2.1
  obtain rfl : pa_1 = pa := (show cI (f g0) 7 = _ from by rw [e_1]; rfl).symm.trans hRV.2.2.2.2
  refine lv_iload_n hx hb dX3_row_0 rfl (lv_at hl 1 rfl) ?_
  refine va_calli (va_runS (As := [.int p0]) (rest := []) ⟨hx, hb, hml, hown, hts⟩ (c_X3_isSlot l dC dI TT s.heap.size p0) (va_cwS 1 hts gX3_row_X3_isSlot rfl rfl rfl (by decide +kernel) ⟨Nat.le_of_ble_eq_true rfl, Nat.le_of_ble_eq_true rfl⟩) (pr_S (ws := []) (wA := []) (tys := []) vp_nil (hK.sub [] rfl) vd_nil hst hS (ro_free hS hA)) rfl rfl hl.1 rfl (lv_room (Nat.le_of_ble_eq_true rfl)) dX3_row_1 ⟨Nat.le_of_ble_eq_true rfl, Nat.le_of_ble_eq_true rfl⟩) hS (fun q _ h => (ro_free hS hA) q h) (ro_free hS hA) (fun r_2 u t H1 locs ht hvm hw hB hz1 hk1 hS => ?_)
  have hP := ro_keep hP hk1
  generalize H1 = H at hP hS ⊢
  rcases hw with ⟨rfl, hp_3⟩ | ⟨rfl, hp_3⟩
  · refine lv_if_eq (tgt := 13) hx hb dX3_row_4 (by decide) (fun c9 => absurd c9 (by decide)) (fun _ => ?_)
    refine lv_iload_n hx hb dX3_row_7 rfl (lv_at hl 2 rfl) ?_
    refine lv_bipush (v := 20) hx hb dX3_row_8 (by decide) ?_
    refine lv_icmp_le (tgt := 15) hx hb dX3_row_10 (by decide) (fun c_4 => ?_) (fun c_4 => ?_)
    · have c_4 := Int32.le_iff_toInt_le.mp c_4
      refine lv_aload_n hx hb dX3_row_15 rfl (lv_at hl 0 rfl) ?_
      refine lv_iload_n hx hb dX3_row_16 rfl (lv_at hl 1 rfl) ?_
      refine lv_bipush (v := 9) hx hb dX3_row_17 (by decide) ?_
      obtain ⟨k_5, hk_5⟩ := va_plg hg0.1 e_1
      refine va_calli (va_runV (b := g0) (As := [.int p0, .int 9]) (rest := []) ⟨hx, hb, hml, hown, hts⟩ (v_X3_isOther l dC dI TT H.size kI kJ kZ K L f hPI g0 hg0 p0 9 (by constructor <;> omega) hU fS fC fF fR fW lo ld lv lm_1 pa_1 hRV) (cwV 2 hts gX3_row_X3_isOther rfl rfl rfl (by decide +kernel) ⟨Nat.le_of_ble_eq_true rfl, Nat.le_of_ble_eq_true rfl⟩) ⟨pr_blind, va_recv hK hP (ci := 3) rfl hk_5, (pr_S (ws := va_pl L f) (wA := []) (tys := [(kI, .int), (kJ, .long), (kZ, .boolean)]) hP hK vd_nil hst hS (ro_free hS hA)).2⟩ rfl rfl hl.1 rfl (lv_room (Nat.le_of_ble_eq_true rfl)) dX3_row_19 ⟨Nat.le_of_ble_eq_true rfl, Nat.le_of_ble_eq_true rfl⟩) hS (fun q _ h => (ro_free hS hA) q h) (ro_free hS hA) (fun r_6 u t H1 locs ht hvm hw hB hz1 hk1 hS => ?_)
      have hP := ro_keep hP hk1
      generalize H1 = H at hP hS ⊢
      rcases hw with ⟨rfl, hp_7⟩ | ⟨rfl, hp_7⟩
      · refine lv_if_eq (tgt := 28) hx hb dX3_row_22 (by decide) (fun c9 => absurd c9 (by decide)) (fun _ => ?_)
        refine lv_bipush (v := (-14)) hx hb dX3_row_25 (by decide) ?_
        subst eQ
        exact W.iret (v := (-14)) hx hb hr (fun t ht hW => ⟨⟨(-14), (), rfl, (by first | (simp only [rs_row]; done) | (simp only [rs_row] <;> (repeat' split) <;> first | (exfalso; omega) | assumption | trivial | rfl) | (simp only [rs_row] <;> (repeat' split) <;> first | (exfalso; omega) | assumption | trivial | rfl | contradiction)), f, hPI, ⟨hfr, (by rw [show rw_rowR fS fC fR p0 p1 = fR from (by first | (simp only [rw_rowR]; done) | (simp only [rw_rowR] <;> (repeat' split) <;> first | (exfalso; omega) | assumption | trivial | rfl) | (simp only [rw_rowR] <;> (repeat' split) <;> first | (exfalso; omega) | assumption | trivial | rfl | contradiction)), show rw_rowW fS fC fW p0 p1 = fW from (by first | (simp only [rw_rowW]; done) | (simp only [rw_rowW] <;> (repeat' split) <;> first | (exfalso; omega) | assumption | trivial | rfl) | (simp only [rw_rowW] <;> (repeat' split) <;> first | (exfalso; omega) | assumption | trivial | rfl | contradiction))]; exact hRV)⟩, by rw [ht]; exact hP, hD⟩, hS.F ht⟩) hS.2.2 dX3_row_27
      · refine lv_if_eq (tgt := 28) hx hb dX3_row_22 (by decide) (fun _ => ?_) (fun c9 => absurd c9 (by decide))
        refine lv_iload_n hx hb dX3_row_28 rfl (lv_at hl 2 rfl) ?_
        refine lv_if_ge (tgt := 41) hx hb dX3_row_29 (by decide) (fun c_8 => ?_) (fun c_8 => ?_)
        · have c_8 := Int32.le_iff_toInt_le.mp c_8
          refine lv_aload_n hx hb dX3_row_41 rfl (lv_at hl 0 rfl) ?_
          obtain ⟨k_9, hk_9⟩ := va_plg hg0.1 e_1
          refine va_get (D := (dC, dI)) (ci := 3) (v := .ref s1_1) (C := RX3) (T := TX3) (N := 23) hx hb hts iX3_ hown hK hP k_9 hk_9 rfl 0 (by decide) (hts (.fieldLink RX3 7 "FieldLeavesModel" "slot" "[I") (by decide +kernel)) (fun _ h9 => h9) rfl dX3_row_42 ?_
          refine lv_iload_n hx hb dX3_row_45 rfl (lv_at hl 1 rfl) ?_
          obtain ⟨k_10, hk_10⟩ := va_plg fs1_1.1 eg11
          have h_10 : vp_in p0 12 := (vp_in_iff.mpr (by constructor <;> omega))
          refine va_iald hx hb hK hP k_10 0 hk_10 rfl h_10 dX3_row_46 ?_
          refine lv_topi (fun z_10 ez_10 => ?_)
          have fz_10 := fg11 _ (vp_lt h_10)
          rw [← ez_10] at fz_10
          have hdez_10 := congrArg Int32.toInt ez_10
          refine lv_iconst (v := (-1)) hx hb dX3_row_47 (by decide) ?_
          refine lv_icmp_ne (tgt := 54) hx hb dX3_row_48 (by decide) (fun c_11 => ?_) (fun c_11 => ?_)
          · have c_11 := mt Int32.toInt_inj.mp c_11
            refine lv_aload_n hx hb dX3_row_54 rfl (lv_at hl 0 rfl) ?_
            obtain ⟨k_12, hk_12⟩ := va_plg hg0.1 e_1
            refine va_get (D := (dC, dI)) (ci := 3) (v := .ref s4_1) (C := RX3) (T := TX3) (N := 23) hx hb hts iX3_ hown hK hP k_12 hk_12 rfl 3 (by decide) (hts (.fieldLink RX3 21 "FieldLeavesModel" "rowSize" "[I") (by decide +kernel)) (fun _ h9 => h9) rfl dX3_row_55 ?_
            refine lv_aload_n hx hb dX3_row_58 rfl (lv_at hl 0 rfl) ?_
            obtain ⟨k_13, hk_13⟩ := va_plg hg0.1 e_1
            refine va_get (D := (dC, dI)) (ci := 3) (v := .ref s1_1) (C := RX3) (T := TX3) (N := 23) hx hb hts iX3_ hown hK hP k_13 hk_13 rfl 0 (by decide) (hts (.fieldLink RX3 7 "FieldLeavesModel" "slot" "[I") (by decide +kernel)) (fun _ h9 => h9) rfl dX3_row_59 ?_
            refine lv_iload_n hx hb dX3_row_62 rfl (lv_at hl 1 rfl) ?_
            obtain ⟨k_14, hk_14⟩ := va_plg fs1_1.1 eg11
            have h_14 : vp_in p0 12 := (vp_in_iff.mpr (by constructor <;> omega))
            refine va_iald hx hb hK hP k_14 0 hk_14 rfl h_14 dX3_row_63 ?_
            refine lv_topi (fun z_14 ez_14 => ?_)
            obtain rfl : z_10 = z_14 := ez_10.trans ez_14.symm
            refine lv_iload_n hx hb dX3_row_64 rfl (lv_at hl 2 rfl) ?_
            refine lv_bipush (v := (-4)) hx hb dX3_row_65 (by decide) ?_
            refine lv_icmp_ne (tgt := 74) hx hb dX3_row_67 (by decide) (fun c_15 => ?_) (fun c_15 => ?_)
            · have c_15 := mt Int32.toInt_inj.mp c_15
              refine lv_iload_n hx hb dX3_row_74 rfl (lv_at hl 2 rfl) ?_
              obtain ⟨k_16, hk_16⟩ := va_plg fs4_1.1 eg14
              have h_16 : vp_in z_10 6400 := (vp_in_iff.mpr (by constructor <;> omega))
              have fw_16 := updS (P := fun v => -1 ≤ v.toInt ∧ v.toInt ≤ 20) (k := Int32.toNatClampNeg z_10) (v := p1) fg14 (by omega)
              have hD9 := hD
              refine va_iast hx hb hK hP hD hS k_16 0 hk_16 rfl h_16 dX3_row_75 (fun H locs hP hD hS => ?_)
              have hP : va_P (dC, dI) vwCl (va_pl L (va_up f s4_1 (.inl (kI, 6400, .inl (upd fR (Int32.toNatClampNeg z_10) p1))))) H := by rw [← va_pls hD9 fs4_1.1 hk_16 _]; exact hP
              have hD : va_D A (va_pl L (va_up f s4_1 (.inl (kI, 6400, .inl (upd fR (Int32.toNatClampNeg z_10) p1))))) := by rw [← va_pls hD9 fs4_1.1 hk_16 _]; exact hD
              have hPI := hPI.put (e := .inl (kI, 6400, .inl (upd fR (Int32.toNatClampNeg z_10) p1))) fs4_1 ⟨_, rfl, fw_16⟩
              have es_f_17 : va_up f s4_1 (.inl (kI, 6400, .inl (upd fR (Int32.toNatClampNeg z_10) p1))) s4_1 = .inl (kI, 6400, .inl (upd fR (Int32.toNatClampNeg z_10) p1)) := va_up_self _ _ _
              have eq_18 := (va_up_ne f (.inl (kI, 6400, .inl (upd fR (Int32.toNatClampNeg z_10) p1))) (isr_ne hg0 fs4_1 (by decide))).trans e_1
              have eq_19 := (va_up_ne f (.inl (kI, 6400, .inl (upd fR (Int32.toNatClampNeg z_10) p1))) (isr_ne fs1_1 fs4_1 (by decide))).trans eg11
              have eq_20 := (va_up_ne f (.inl (kI, 6400, .inl (upd fR (Int32.toNatClampNeg z_10) p1))) (isr_ne fs2_1 fs4_1 (by decide))).trans eg12
              have eq_21 := (va_up_ne f (.inl (kI, 6400, .inl (upd fR (Int32.toNatClampNeg z_10) p1))) (isr_ne fs3_1 fs4_1 (by decide))).trans eg13
              have eq_22 := (va_up_ne f (.inl (kI, 6400, .inl (upd fR (Int32.toNatClampNeg z_10) p1))) (isr_ne fs5_1 fs4_1 (by decide))).trans eg15
              have eq_23 := (va_up_ne f (.inl (kI, 6400, .inl (upd fR (Int32.toNatClampNeg z_10) p1))) (isr_ne fs8_1 fs4_1 (by decide))).trans eg18
              have eq_24 := (va_up_ne f (.inl (kI, 6400, .inl (upd fR (Int32.toNatClampNeg z_10) p1))) (isr_ne fs9_1 fs4_1 (by decide))).trans eg19
              have eq_25 := (va_up_ne f (.inl (kI, 6400, .inl (upd fR (Int32.toNatClampNeg z_10) p1))) (isr_ne fs10_1 fs4_1 (by decide))).trans eg20
              have hfr := fr_up (S := (sK [14, 15])) (e := .inl (kI, 6400, .inl (upd fR (Int32.toNatClampNeg z_10) p1))) hfr fs4_1 (by decide)
              generalize hg_f_17 : va_up f s4_1 (.inl (kI, 6400, .inl (upd fR (Int32.toNatClampNeg z_10) p1))) = f_17 at hP hD hPI es_f_17 eq_18 eq_19 eq_20 eq_21 eq_22 eq_23 eq_24 eq_25 hfr
              refine lv_iconst (v := 0) hx hb dX3_row_76 (by decide) ?_
              refine lv_istore_n (lv' := [(3, .int 0), (0, .ref g0), (1, .int p0), (2, .int p1)]) hx hb dX3_row_77 rfl hl (by decide) rfl (fun ls hl => ?_)
              have hfrE78 := hfr
              have loop_78 : ∀ (n : Nat) (i3 : Int32)   (fl : Nat → va_E) (H : Heap) (locs : List Loc) (ls : Array Slot), (0 ≤ i3.toInt ∧ i3.toInt ≤ 20 ∧ (i3.toInt ≤ p1.toInt ∨ i3.toInt = 0)) → (20 - i3.toInt).toNat < n → (FR (sK [14, 15]) K L f_17 fl ∧ (RV kI kJ K L fl g0 fS fC fF ((upd fR (Int32.toNatClampNeg z_10) p1)) (wip fW (20 * Int32.toNatClampNeg z_10) (Int32.toNatClampNeg i3)) lo ld lv lm_1 pa_1)) → PR kI kJ kZ K L fl → va_P (dC, dI) vwCl (va_pl L fl) H → va_D A (va_pl L fl) → va_S A s.heap H locs → lv_has ls 4 [(3, .int i3), (0, .ref g0), (1, .int p0), (2, .int p1)] → W p l e (headSpec wsX3_row ({ frames := 2, cells := 0, slots := 0, locals := 45 } : Room)).room s m (([.ref g0, .int p0, .int p1] : List Value).toArray) below meth c H locs 0 0 Q0 (F0 m 78 ls []) := by
                intro n
                induction n with
                | zero => intro i3 fl H locs ls  _ h9; exact absurd h9 (Nat.not_lt_zero _)
                | succ n ih_78 =>
                  intro i3 fl H locs ls  hI hM hFN hPI hP hD hS hl
                  obtain ⟨hfr, hFN⟩ := hFN
                  have eq_26 := (hfr g0 hg0.1 (by rw [hg0.2]; rfl)).trans eq_18
                  have eq_27 := (hfr s1_1 fs1_1.1 (by rw [fs1_1.2]; rfl)).trans eq_19
                  have eq_28 := (hfr s2_1 fs2_1.1 (by rw [fs2_1.2]; rfl)).trans eq_20
                  have eq_29 := (hfr s3_1 fs3_1.1 (by rw [fs3_1.2]; rfl)).trans eq_21
                  have eq_30 := (hfr s8_1 fs8_1.1 (by rw [fs8_1.2]; rfl)).trans eq_23
                  have eq_31 := (hfr s9_1 fs9_1.1 (by rw [fs9_1.2]; rfl)).trans eq_24
                  have eq_32 := (hfr s10_1 fs10_1.1 (by rw [fs10_1.2]; rfl)).trans eq_25
                  have hRV9 := hFN
                  have eg_33 := hRV9.2.1.1 s4_1 fs4_1
                  have fg_33 := (hPI.a14 fs4_1).of eg_33
                  have eg_34 := hRV9.2.1.2 s5_1 fs5_1
                  have fg_34 := (hPI.a15 fs5_1).of eg_34
                  refine lv_iload_n hx hb dX3_row_78 rfl (lv_at hl 0 rfl) ?_
                  refine lv_iload_n hx hb dX3_row_79 rfl (lv_at hl 3 rfl) ?_
                  refine lv_icmp_ge (tgt := 106) hx hb dX3_row_80 (by decide) (fun c_35 => ?_) (fun c_35 => ?_)
                  · have c_35 := Int32.le_iff_toInt_le.mp c_35
                    have hq_x := clamp_eq (i := i3) (n := p1) (by omega)
                    refine lv_iload_n hx hb dX3_row_106 rfl (lv_at hl 3 rfl) ?_
                    subst eQ
                    exact W.iret (v := p1) hx hb hr (fun t ht hW => ⟨⟨p1, (), rfl, (by first | (simp only [rs_row, ← ez_10, hq_x]; done) | (simp only [rs_row, ← ez_10, hq_x] <;> (repeat' split) <;> first | (exfalso; omega) | assumption | trivial | rfl) | (simp only [rs_row, ez_10, hq_x] <;> (repeat' split) <;> first | (exfalso; omega) | assumption | trivial | rfl | contradiction) | (subst ez_10; simp only [rs_row, hq_x] <;> (repeat' split) <;> first | (exfalso; omega) | assumption | trivial | rfl)), fl, hPI, ⟨(FR.tr hfrE78 hfr (fun _ h => h)), (by rw [show rw_rowR fS fC fR p0 p1 = (upd fR (Int32.toNatClampNeg z_10) p1) from (by first | (simp only [rw_rowR, ← ez_10, hq_x]; done) | (simp only [rw_rowR, ← ez_10, hq_x] <;> (repeat' split) <;> first | (exfalso; omega) | assumption | trivial | rfl) | (simp only [rw_rowR, ez_10, hq_x] <;> (repeat' split) <;> first | (exfalso; omega) | assumption | trivial | rfl | contradiction) | (subst ez_10; simp only [rw_rowR, hq_x] <;> (repeat' split) <;> first | (exfalso; omega) | assumption | trivial | rfl)), show rw_rowW fS fC fW p0 p1 = (wip fW (20 * Int32.toNatClampNeg z_10) (Int32.toNatClampNeg i3)) from (by first | (simp only [rw_rowW, ← ez_10, hq_x]; done) | (simp only [rw_rowW, ← ez_10, hq_x] <;> (repeat' split) <;> first | (exfalso; omega) | assumption | trivial | rfl) | (simp only [rw_rowW, ez_10, hq_x] <;> (repeat' split) <;> first | (exfalso; omega) | assumption | trivial | rfl | contradiction) | (subst ez_10; simp only [rw_rowW, hq_x] <;> (repeat' split) <;> first | (exfalso; omega) | assumption | trivial | rfl))]; exact ⟨SV.mk hU fs1_1 fs2_1 fs3_1 eq_27 eq_28 eq_29, ⟨un_row hU fs4_1 eg_33, un_row hU fs5_1 eg_34⟩, ⟨un_row hU fs8_1 eq_30, un_row hU fs9_1 eq_31, un_row hU fs10_1 eq_32⟩, (by rw [eq_26]; rfl), (by rw [eq_26]; rfl)⟩)⟩, by rw [ht]; exact hP, hD⟩, hS.F ht⟩) hS.2.2 dX3_row_107
                  · have c_35 := mt Int32.le_iff_toInt_le.mpr c_35
                    refine lv_aload_n hx hb dX3_row_83 rfl (lv_at hl 1 rfl) ?_
                    obtain ⟨k_36, hk_36⟩ := va_plg hg0.1 eq_26
                    refine va_get (D := (dC, dI)) (ci := 3) (v := .ref s5_1) (C := RX3) (T := TX3) (N := 23) hx hb hts iX3_ hown hK hP k_36 hk_36 rfl 4 (by decide) (hts (.fieldLink RX3 25 "FieldLeavesModel" "rows" "[I") (by decide +kernel)) (fun _ h9 => h9) rfl dX3_row_84 ?_
                    refine lv_bipush (v := 20) hx hb dX3_row_87 (by decide) ?_
                    refine lv_aload_n hx hb dX3_row_89 rfl (lv_at hl 1 rfl) ?_
                    obtain ⟨k_37, hk_37⟩ := va_plg hg0.1 eq_26
                    refine va_get (D := (dC, dI)) (ci := 3) (v := .ref s1_1) (C := RX3) (T := TX3) (N := 23) hx hb hts iX3_ hown hK hP k_37 hk_37 rfl 0 (by decide) (hts (.fieldLink RX3 7 "FieldLeavesModel" "slot" "[I") (by decide +kernel)) (fun _ h9 => h9) rfl dX3_row_90 ?_
                    refine lv_iload_n hx hb dX3_row_93 rfl (lv_at hl 2 rfl) ?_
                    obtain ⟨k_38, hk_38⟩ := va_plg fs1_1.1 eq_27
                    have h_38 : vp_in p0 12 := (vp_in_iff.mpr (by constructor <;> omega))
                    refine va_iald hx hb hK hP k_38 0 hk_38 rfl h_38 dX3_row_94 ?_
                    refine lv_topi (fun z_38 ez_38 => ?_)
                    obtain rfl : z_10 = z_38 := ez_10.trans ez_38.symm
                    refine lv_imul hx hb dX3_row_95 ?_
                    refine lv_topi (fun z_39 ez_39 => ?_)
                    have kz_39 := mul20 ez_39 (by omega) (by omega)
                    refine lv_iload_n hx hb dX3_row_96 rfl (lv_at hl 0 rfl) ?_
                    refine lv_iadd hx hb dX3_row_97 ?_
                    refine lv_topi (fun z_40 ez_40 => ?_)
                    have kz_40 := add_toInt ez_40 (by omega) (by omega)
                    refine lv_iconst (v := 0) hx hb dX3_row_98 (by decide) ?_
                    obtain ⟨k_41, hk_41⟩ := va_plg fs5_1.1 eg_34
                    have hq_i_42 := idx20 (o := z_10) (f := i3) (w := z_40) (by omega) (by omega) (by omega)
                    have h_41 : vp_in z_40 128000 := (vp_in_iff.mpr (by constructor <;> omega))
                    have fw_41 := trivial
                    have hD9 := hD
                    refine va_iast hx hb hK hP hD hS k_41 0 hk_41 rfl h_41 dX3_row_99 (fun H locs hP hD hS => ?_)
                    have hP : va_P (dC, dI) vwCl (va_pl L (va_up fl s5_1 (.inl (kI, 128000, .inl (upd (wip fW (20 * Int32.toNatClampNeg z_10) (Int32.toNatClampNeg i3)) (Int32.toNatClampNeg z_40) 0))))) H := by rw [← va_pls hD9 fs5_1.1 hk_41 _]; exact hP
                    have hD : va_D A (va_pl L (va_up fl s5_1 (.inl (kI, 128000, .inl (upd (wip fW (20 * Int32.toNatClampNeg z_10) (Int32.toNatClampNeg i3)) (Int32.toNatClampNeg z_40) 0))))) := by rw [← va_pls hD9 fs5_1.1 hk_41 _]; exact hD
                    have hPI := hPI.put (e := .inl (kI, 128000, .inl (upd (wip fW (20 * Int32.toNatClampNeg z_10) (Int32.toNatClampNeg i3)) (Int32.toNatClampNeg z_40) 0))) fs5_1 ⟨_, rfl, fw_41⟩
                    have es_f_43 : va_up fl s5_1 (.inl (kI, 128000, .inl (upd (wip fW (20 * Int32.toNatClampNeg z_10) (Int32.toNatClampNeg i3)) (Int32.toNatClampNeg z_40) 0))) s5_1 = .inl (kI, 128000, .inl (upd (wip fW (20 * Int32.toNatClampNeg z_10) (Int32.toNatClampNeg i3)) (Int32.toNatClampNeg z_40) 0)) := va_up_self _ _ _
                    have eq_44 := (va_up_ne fl (.inl (kI, 128000, .inl (upd (wip fW (20 * Int32.toNatClampNeg z_10) (Int32.toNatClampNeg i3)) (Int32.toNatClampNeg z_40) 0))) (isr_ne hg0 fs5_1 (by decide))).trans eq_26
                    have eq_45 := (va_up_ne fl (.inl (kI, 128000, .inl (upd (wip fW (20 * Int32.toNatClampNeg z_10) (Int32.toNatClampNeg i3)) (Int32.toNatClampNeg z_40) 0))) (isr_ne fs1_1 fs5_1 (by decide))).trans eq_27
                    have eq_46 := (va_up_ne fl (.inl (kI, 128000, .inl (upd (wip fW (20 * Int32.toNatClampNeg z_10) (Int32.toNatClampNeg i3)) (Int32.toNatClampNeg z_40) 0))) (isr_ne fs2_1 fs5_1 (by decide))).trans eq_28
                    have eq_47 := (va_up_ne fl (.inl (kI, 128000, .inl (upd (wip fW (20 * Int32.toNatClampNeg z_10) (Int32.toNatClampNeg i3)) (Int32.toNatClampNeg z_40) 0))) (isr_ne fs3_1 fs5_1 (by decide))).trans eq_29
                    have eq_48 := (va_up_ne fl (.inl (kI, 128000, .inl (upd (wip fW (20 * Int32.toNatClampNeg z_10) (Int32.toNatClampNeg i3)) (Int32.toNatClampNeg z_40) 0))) (isr_ne fs8_1 fs5_1 (by decide))).trans eq_30
                    have eq_49 := (va_up_ne fl (.inl (kI, 128000, .inl (upd (wip fW (20 * Int32.toNatClampNeg z_10) (Int32.toNatClampNeg i3)) (Int32.toNatClampNeg z_40) 0))) (isr_ne fs9_1 fs5_1 (by decide))).trans eq_31
                    have eq_50 := (va_up_ne fl (.inl (kI, 128000, .inl (upd (wip fW (20 * Int32.toNatClampNeg z_10) (Int32.toNatClampNeg i3)) (Int32.toNatClampNeg z_40) 0))) (isr_ne fs10_1 fs5_1 (by decide))).trans eq_32
                    have eq_51 := (va_up_ne fl (.inl (kI, 128000, .inl (upd (wip fW (20 * Int32.toNatClampNeg z_10) (Int32.toNatClampNeg i3)) (Int32.toNatClampNeg z_40) 0))) (isr_ne fs4_1 fs5_1 (by decide))).trans eg_33
                    have hfr := fr_up (S := (sK [14, 15])) (e := .inl (kI, 128000, .inl (upd (wip fW (20 * Int32.toNatClampNeg z_10) (Int32.toNatClampNeg i3)) (Int32.toNatClampNeg z_40) 0))) hfr fs5_1 (by decide)
                    generalize hg_f_43 : va_up fl s5_1 (.inl (kI, 128000, .inl (upd (wip fW (20 * Int32.toNatClampNeg z_10) (Int32.toNatClampNeg i3)) (Int32.toNatClampNeg z_40) 0))) = f_43 at hP hD hPI es_f_43 eq_44 eq_45 eq_46 eq_47 eq_48 eq_49 eq_50 eq_51 hfr
                    obtain ⟨i_52, ei_52⟩ : ∃ y : Int32, y = i3 + 1 := ⟨_, rfl⟩
                    refine lv_iinc (v := i_52) (lv' := [(3, .int i_52), (0, .ref g0), (1, .int p0), (2, .int p1)]) hx hb dX3_row_100 hl (k := 0) rfl (by rw [ei_52]; rfl) (by decide) rfl (fun ls hl => ?_)
                    have ki_52 := inc_toInt ei_52 (by omega)
                    refine lv_goto (tgt := 78) hx hb dX3_row_103 (by decide) ?_
                    exact ih_78 i_52 f_43 _ _ _  (by omega) (by omega) ⟨hfr, (by rw [cl_succ (by omega) ki_52, ← wip_step, ← hq_i_42]; exact ⟨SV.mk hU fs1_1 fs2_1 fs3_1 eq_45 eq_46 eq_47, ⟨un_row hU fs4_1 eq_51, un_row hU fs5_1 es_f_43⟩, ⟨un_row hU fs8_1 eq_48, un_row hU fs9_1 eq_49, un_row hU fs10_1 eq_50⟩, (by rw [eq_44]; rfl), (by rw [eq_44]; rfl)⟩)⟩ hPI hP hD hS (lv_sub hl [0, 1, 2, 3] rfl)
              exact loop_78 21 0 f_17 _ _ _  (by omega) (by omega) ⟨FR.rf, (by rw [cl_0, wip_0]; exact ⟨SV.mk hU fs1_1 fs2_1 fs3_1 eq_19 eq_20 eq_21, ⟨un_row hU fs4_1 es_f_17, un_row hU fs5_1 eq_22⟩, ⟨un_row hU fs8_1 eq_23, un_row hU fs9_1 eq_24, un_row hU fs10_1 eq_25⟩, (by rw [eq_18]; rfl), (by rw [eq_18]; rfl)⟩)⟩ hPI hP hD hS hl
            · have c_15 := congrArg Int32.toInt c_15
              refine lv_iconst (v := (-1)) hx hb dX3_row_70 (by decide) ?_
              refine lv_goto (tgt := 75) hx hb dX3_row_71 (by decide) ?_
              obtain ⟨k_53, hk_53⟩ := va_plg fs4_1.1 eg14
              have h_53 : vp_in z_10 6400 := (vp_in_iff.mpr (by constructor <;> omega))
              have fw_53 := updS (P := fun v => -1 ≤ v.toInt ∧ v.toInt ≤ 20) (k := Int32.toNatClampNeg z_10) (v := (-1)) fg14 (by omega)
              have hD9 := hD
              refine va_iast hx hb hK hP hD hS k_53 0 hk_53 rfl h_53 dX3_row_75 (fun H locs hP hD hS => ?_)
              have hP : va_P (dC, dI) vwCl (va_pl L (va_up f s4_1 (.inl (kI, 6400, .inl (upd fR (Int32.toNatClampNeg z_10) (-1)))))) H := by rw [← va_pls hD9 fs4_1.1 hk_53 _]; exact hP
              have hD : va_D A (va_pl L (va_up f s4_1 (.inl (kI, 6400, .inl (upd fR (Int32.toNatClampNeg z_10) (-1)))))) := by rw [← va_pls hD9 fs4_1.1 hk_53 _]; exact hD
              have hPI := hPI.put (e := .inl (kI, 6400, .inl (upd fR (Int32.toNatClampNeg z_10) (-1)))) fs4_1 ⟨_, rfl, fw_53⟩
              have es_f_54 : va_up f s4_1 (.inl (kI, 6400, .inl (upd fR (Int32.toNatClampNeg z_10) (-1)))) s4_1 = .inl (kI, 6400, .inl (upd fR (Int32.toNatClampNeg z_10) (-1))) := va_up_self _ _ _
              have eq_55 := (va_up_ne f (.inl (kI, 6400, .inl (upd fR (Int32.toNatClampNeg z_10) (-1)))) (isr_ne hg0 fs4_1 (by decide))).trans e_1
              have eq_56 := (va_up_ne f (.inl (kI, 6400, .inl (upd fR (Int32.toNatClampNeg z_10) (-1)))) (isr_ne fs1_1 fs4_1 (by decide))).trans eg11
              have eq_57 := (va_up_ne f (.inl (kI, 6400, .inl (upd fR (Int32.toNatClampNeg z_10) (-1)))) (isr_ne fs2_1 fs4_1 (by decide))).trans eg12
              have eq_58 := (va_up_ne f (.inl (kI, 6400, .inl (upd fR (Int32.toNatClampNeg z_10) (-1)))) (isr_ne fs3_1 fs4_1 (by decide))).trans eg13
              have eq_59 := (va_up_ne f (.inl (kI, 6400, .inl (upd fR (Int32.toNatClampNeg z_10) (-1)))) (isr_ne fs5_1 fs4_1 (by decide))).trans eg15
              have eq_60 := (va_up_ne f (.inl (kI, 6400, .inl (upd fR (Int32.toNatClampNeg z_10) (-1)))) (isr_ne fs8_1 fs4_1 (by decide))).trans eg18
              have eq_61 := (va_up_ne f (.inl (kI, 6400, .inl (upd fR (Int32.toNatClampNeg z_10) (-1)))) (isr_ne fs9_1 fs4_1 (by decide))).trans eg19
              have eq_62 := (va_up_ne f (.inl (kI, 6400, .inl (upd fR (Int32.toNatClampNeg z_10) (-1)))) (isr_ne fs10_1 fs4_1 (by decide))).trans eg20
              have hfr := fr_up (S := (sK [14, 15])) (e := .inl (kI, 6400, .inl (upd fR (Int32.toNatClampNeg z_10) (-1)))) hfr fs4_1 (by decide)
              generalize hg_f_54 : va_up f s4_1 (.inl (kI, 6400, .inl (upd fR (Int32.toNatClampNeg z_10) (-1)))) = f_54 at hP hD hPI es_f_54 eq_55 eq_56 eq_57 eq_58 eq_59 eq_60 eq_61 eq_62 hfr
              refine lv_iconst (v := 0) hx hb dX3_row_76 (by decide) ?_
              refine lv_istore_n (lv' := [(3, .int 0), (0, .ref g0), (1, .int p0), (2, .int p1)]) hx hb dX3_row_77 rfl hl (by decide) rfl (fun ls hl => ?_)
              have hfrE78 := hfr
              have loop_78 : ∀ (n : Nat) (i3 : Int32)   (fl : Nat → va_E) (H : Heap) (locs : List Loc) (ls : Array Slot), (0 ≤ i3.toInt ∧ i3.toInt ≤ 20 ∧ (i3.toInt ≤ p1.toInt ∨ i3.toInt = 0)) → (20 - i3.toInt).toNat < n → (FR (sK [14, 15]) K L f_54 fl ∧ (RV kI kJ K L fl g0 fS fC fF ((upd fR (Int32.toNatClampNeg z_10) (-1))) (wip fW (20 * Int32.toNatClampNeg z_10) (Int32.toNatClampNeg i3)) lo ld lv lm_1 pa_1)) → PR kI kJ kZ K L fl → va_P (dC, dI) vwCl (va_pl L fl) H → va_D A (va_pl L fl) → va_S A s.heap H locs → lv_has ls 4 [(3, .int i3), (0, .ref g0), (1, .int p0), (2, .int p1)] → W p l e (headSpec wsX3_row ({ frames := 2, cells := 0, slots := 0, locals := 45 } : Room)).room s m (([.ref g0, .int p0, .int p1] : List Value).toArray) below meth c H locs 0 0 Q0 (F0 m 78 ls []) := by
                intro n
                induction n with
                | zero => intro i3 fl H locs ls  _ h9; exact absurd h9 (Nat.not_lt_zero _)
                | succ n ih_78 =>
                  intro i3 fl H locs ls  hI hM hFN hPI hP hD hS hl
                  obtain ⟨hfr, hFN⟩ := hFN
                  have eq_63 := (hfr g0 hg0.1 (by rw [hg0.2]; rfl)).trans eq_55
                  have eq_64 := (hfr s1_1 fs1_1.1 (by rw [fs1_1.2]; rfl)).trans eq_56
                  have eq_65 := (hfr s2_1 fs2_1.1 (by rw [fs2_1.2]; rfl)).trans eq_57
                  have eq_66 := (hfr s3_1 fs3_1.1 (by rw [fs3_1.2]; rfl)).trans eq_58
                  have eq_67 := (hfr s8_1 fs8_1.1 (by rw [fs8_1.2]; rfl)).trans eq_60
                  have eq_68 := (hfr s9_1 fs9_1.1 (by rw [fs9_1.2]; rfl)).trans eq_61
                  have eq_69 := (hfr s10_1 fs10_1.1 (by rw [fs10_1.2]; rfl)).trans eq_62
                  have hRV9 := hFN
                  have eg_70 := hRV9.2.1.1 s4_1 fs4_1
                  have fg_70 := (hPI.a14 fs4_1).of eg_70
                  have eg_71 := hRV9.2.1.2 s5_1 fs5_1
                  have fg_71 := (hPI.a15 fs5_1).of eg_71
                  refine lv_iload_n hx hb dX3_row_78 rfl (lv_at hl 0 rfl) ?_
                  refine lv_iload_n hx hb dX3_row_79 rfl (lv_at hl 3 rfl) ?_
                  refine lv_icmp_ge (tgt := 106) hx hb dX3_row_80 (by decide) (fun c_72 => ?_) (fun c_72 => ?_)
                  · have c_72 := Int32.le_iff_toInt_le.mp c_72
                    have hq_x := clamp_eq (i := i3) (n := p1) (by omega)
                    refine lv_iload_n hx hb dX3_row_106 rfl (lv_at hl 3 rfl) ?_
                    subst eQ
                    exact W.iret (v := p1) hx hb hr (fun t ht hW => ⟨⟨p1, (), rfl, (by first | (simp only [rs_row, ← ez_10, hq_x]; done) | (simp only [rs_row, ← ez_10, hq_x] <;> (repeat' split) <;> first | (exfalso; omega) | assumption | trivial | rfl) | (simp only [rs_row, ez_10, hq_x] <;> (repeat' split) <;> first | (exfalso; omega) | assumption | trivial | rfl | contradiction) | (subst ez_10; simp only [rs_row, hq_x] <;> (repeat' split) <;> first | (exfalso; omega) | assumption | trivial | rfl)), fl, hPI, ⟨(FR.tr hfrE78 hfr (fun _ h => h)), (by rw [show rw_rowR fS fC fR p0 p1 = (upd fR (Int32.toNatClampNeg z_10) (-1)) from (by first | (simp only [rw_rowR, ← ez_10, hq_x]; done) | (simp only [rw_rowR, ← ez_10, hq_x] <;> (repeat' split) <;> first | (exfalso; omega) | assumption | trivial | rfl) | (simp only [rw_rowR, ez_10, hq_x] <;> (repeat' split) <;> first | (exfalso; omega) | assumption | trivial | rfl | contradiction) | (subst ez_10; simp only [rw_rowR, hq_x] <;> (repeat' split) <;> first | (exfalso; omega) | assumption | trivial | rfl)), show rw_rowW fS fC fW p0 p1 = (wip fW (20 * Int32.toNatClampNeg z_10) (Int32.toNatClampNeg i3)) from (by first | (simp only [rw_rowW, ← ez_10, hq_x]; done) | (simp only [rw_rowW, ← ez_10, hq_x] <;> (repeat' split) <;> first | (exfalso; omega) | assumption | trivial | rfl) | (simp only [rw_rowW, ez_10, hq_x] <;> (repeat' split) <;> first | (exfalso; omega) | assumption | trivial | rfl | contradiction) | (subst ez_10; simp only [rw_rowW, hq_x] <;> (repeat' split) <;> first | (exfalso; omega) | assumption | trivial | rfl))]; exact ⟨SV.mk hU fs1_1 fs2_1 fs3_1 eq_64 eq_65 eq_66, ⟨un_row hU fs4_1 eg_70, un_row hU fs5_1 eg_71⟩, ⟨un_row hU fs8_1 eq_67, un_row hU fs9_1 eq_68, un_row hU fs10_1 eq_69⟩, (by rw [eq_63]; rfl), (by rw [eq_63]; rfl)⟩)⟩, by rw [ht]; exact hP, hD⟩, hS.F ht⟩) hS.2.2 dX3_row_107
                  · have c_72 := mt Int32.le_iff_toInt_le.mpr c_72
                    refine lv_aload_n hx hb dX3_row_83 rfl (lv_at hl 1 rfl) ?_
                    obtain ⟨k_73, hk_73⟩ := va_plg hg0.1 eq_63
                    refine va_get (D := (dC, dI)) (ci := 3) (v := .ref s5_1) (C := RX3) (T := TX3) (N := 23) hx hb hts iX3_ hown hK hP k_73 hk_73 rfl 4 (by decide) (hts (.fieldLink RX3 25 "FieldLeavesModel" "rows" "[I") (by decide +kernel)) (fun _ h9 => h9) rfl dX3_row_84 ?_
                    refine lv_bipush (v := 20) hx hb dX3_row_87 (by decide) ?_
                    refine lv_aload_n hx hb dX3_row_89 rfl (lv_at hl 1 rfl) ?_
                    obtain ⟨k_74, hk_74⟩ := va_plg hg0.1 eq_63
                    refine va_get (D := (dC, dI)) (ci := 3) (v := .ref s1_1) (C := RX3) (T := TX3) (N := 23) hx hb hts iX3_ hown hK hP k_74 hk_74 rfl 0 (by decide) (hts (.fieldLink RX3 7 "FieldLeavesModel" "slot" "[I") (by decide +kernel)) (fun _ h9 => h9) rfl dX3_row_90 ?_
                    refine lv_iload_n hx hb dX3_row_93 rfl (lv_at hl 2 rfl) ?_
                    obtain ⟨k_75, hk_75⟩ := va_plg fs1_1.1 eq_64
                    have h_75 : vp_in p0 12 := (vp_in_iff.mpr (by constructor <;> omega))
                    refine va_iald hx hb hK hP k_75 0 hk_75 rfl h_75 dX3_row_94 ?_
                    refine lv_topi (fun z_75 ez_75 => ?_)
                    obtain rfl : z_10 = z_75 := ez_10.trans ez_75.symm
                    refine lv_imul hx hb dX3_row_95 ?_
                    refine lv_topi (fun z_76 ez_76 => ?_)
                    have kz_76 := mul20 ez_76 (by omega) (by omega)
                    refine lv_iload_n hx hb dX3_row_96 rfl (lv_at hl 0 rfl) ?_
                    refine lv_iadd hx hb dX3_row_97 ?_
                    refine lv_topi (fun z_77 ez_77 => ?_)
                    have kz_77 := add_toInt ez_77 (by omega) (by omega)
                    refine lv_iconst (v := 0) hx hb dX3_row_98 (by decide) ?_
                    obtain ⟨k_78, hk_78⟩ := va_plg fs5_1.1 eg_71
                    have hq_i_79 := idx20 (o := z_10) (f := i3) (w := z_77) (by omega) (by omega) (by omega)
                    have h_78 : vp_in z_77 128000 := (vp_in_iff.mpr (by constructor <;> omega))
                    have fw_78 := trivial
                    have hD9 := hD
                    refine va_iast hx hb hK hP hD hS k_78 0 hk_78 rfl h_78 dX3_row_99 (fun H locs hP hD hS => ?_)
                    have hP : va_P (dC, dI) vwCl (va_pl L (va_up fl s5_1 (.inl (kI, 128000, .inl (upd (wip fW (20 * Int32.toNatClampNeg z_10) (Int32.toNatClampNeg i3)) (Int32.toNatClampNeg z_77) 0))))) H := by rw [← va_pls hD9 fs5_1.1 hk_78 _]; exact hP
                    have hD : va_D A (va_pl L (va_up fl s5_1 (.inl (kI, 128000, .inl (upd (wip fW (20 * Int32.toNatClampNeg z_10) (Int32.toNatClampNeg i3)) (Int32.toNatClampNeg z_77) 0))))) := by rw [← va_pls hD9 fs5_1.1 hk_78 _]; exact hD
                    have hPI := hPI.put (e := .inl (kI, 128000, .inl (upd (wip fW (20 * Int32.toNatClampNeg z_10) (Int32.toNatClampNeg i3)) (Int32.toNatClampNeg z_77) 0))) fs5_1 ⟨_, rfl, fw_78⟩
                    have es_f_80 : va_up fl s5_1 (.inl (kI, 128000, .inl (upd (wip fW (20 * Int32.toNatClampNeg z_10) (Int32.toNatClampNeg i3)) (Int32.toNatClampNeg z_77) 0))) s5_1 = .inl (kI, 128000, .inl (upd (wip fW (20 * Int32.toNatClampNeg z_10) (Int32.toNatClampNeg i3)) (Int32.toNatClampNeg z_77) 0)) := va_up_self _ _ _
                    have eq_81 := (va_up_ne fl (.inl (kI, 128000, .inl (upd (wip fW (20 * Int32.toNatClampNeg z_10) (Int32.toNatClampNeg i3)) (Int32.toNatClampNeg z_77) 0))) (isr_ne hg0 fs5_1 (by decide))).trans eq_63
                    have eq_82 := (va_up_ne fl (.inl (kI, 128000, .inl (upd (wip fW (20 * Int32.toNatClampNeg z_10) (Int32.toNatClampNeg i3)) (Int32.toNatClampNeg z_77) 0))) (isr_ne fs1_1 fs5_1 (by decide))).trans eq_64
                    have eq_83 := (va_up_ne fl (.inl (kI, 128000, .inl (upd (wip fW (20 * Int32.toNatClampNeg z_10) (Int32.toNatClampNeg i3)) (Int32.toNatClampNeg z_77) 0))) (isr_ne fs2_1 fs5_1 (by decide))).trans eq_65
                    have eq_84 := (va_up_ne fl (.inl (kI, 128000, .inl (upd (wip fW (20 * Int32.toNatClampNeg z_10) (Int32.toNatClampNeg i3)) (Int32.toNatClampNeg z_77) 0))) (isr_ne fs3_1 fs5_1 (by decide))).trans eq_66
                    have eq_85 := (va_up_ne fl (.inl (kI, 128000, .inl (upd (wip fW (20 * Int32.toNatClampNeg z_10) (Int32.toNatClampNeg i3)) (Int32.toNatClampNeg z_77) 0))) (isr_ne fs8_1 fs5_1 (by decide))).trans eq_67
                    have eq_86 := (va_up_ne fl (.inl (kI, 128000, .inl (upd (wip fW (20 * Int32.toNatClampNeg z_10) (Int32.toNatClampNeg i3)) (Int32.toNatClampNeg z_77) 0))) (isr_ne fs9_1 fs5_1 (by decide))).trans eq_68
                    have eq_87 := (va_up_ne fl (.inl (kI, 128000, .inl (upd (wip fW (20 * Int32.toNatClampNeg z_10) (Int32.toNatClampNeg i3)) (Int32.toNatClampNeg z_77) 0))) (isr_ne fs10_1 fs5_1 (by decide))).trans eq_69
                    have eq_88 := (va_up_ne fl (.inl (kI, 128000, .inl (upd (wip fW (20 * Int32.toNatClampNeg z_10) (Int32.toNatClampNeg i3)) (Int32.toNatClampNeg z_77) 0))) (isr_ne fs4_1 fs5_1 (by decide))).trans eg_70
                    have hfr := fr_up (S := (sK [14, 15])) (e := .inl (kI, 128000, .inl (upd (wip fW (20 * Int32.toNatClampNeg z_10) (Int32.toNatClampNeg i3)) (Int32.toNatClampNeg z_77) 0))) hfr fs5_1 (by decide)
                    generalize hg_f_80 : va_up fl s5_1 (.inl (kI, 128000, .inl (upd (wip fW (20 * Int32.toNatClampNeg z_10) (Int32.toNatClampNeg i3)) (Int32.toNatClampNeg z_77) 0))) = f_80 at hP hD hPI es_f_80 eq_81 eq_82 eq_83 eq_84 eq_85 eq_86 eq_87 eq_88 hfr
                    obtain ⟨i_89, ei_89⟩ : ∃ y : Int32, y = i3 + 1 := ⟨_, rfl⟩
                    refine lv_iinc (v := i_89) (lv' := [(3, .int i_89), (0, .ref g0), (1, .int p0), (2, .int p1)]) hx hb dX3_row_100 hl (k := 0) rfl (by rw [ei_89]; rfl) (by decide) rfl (fun ls hl => ?_)
                    have ki_89 := inc_toInt ei_89 (by omega)
                    refine lv_goto (tgt := 78) hx hb dX3_row_103 (by decide) ?_
                    exact ih_78 i_89 f_80 _ _ _  (by omega) (by omega) ⟨hfr, (by rw [cl_succ (by omega) ki_89, ← wip_step, ← hq_i_79]; exact ⟨SV.mk hU fs1_1 fs2_1 fs3_1 eq_82 eq_83 eq_84, ⟨un_row hU fs4_1 eq_88, un_row hU fs5_1 es_f_80⟩, ⟨un_row hU fs8_1 eq_85, un_row hU fs9_1 eq_86, un_row hU fs10_1 eq_87⟩, (by rw [eq_81]; rfl), (by rw [eq_81]; rfl)⟩)⟩ hPI hP hD hS (lv_sub hl [0, 1, 2, 3] rfl)
              exact loop_78 21 0 f_54 _ _ _  (by omega) (by omega) ⟨FR.rf, (by rw [cl_0, wip_0]; exact ⟨SV.mk hU fs1_1 fs2_1 fs3_1 eq_56 eq_57 eq_58, ⟨un_row hU fs4_1 es_f_54, un_row hU fs5_1 eq_59⟩, ⟨un_row hU fs8_1 eq_60, un_row hU fs9_1 eq_61, un_row hU fs10_1 eq_62⟩, (by rw [eq_55]; rfl), (by rw [eq_55]; rfl)⟩)⟩ hPI hP hD hS hl
          · have c_11 := congrArg Int32.toInt c_11
            refine lv_bipush (v := (-11)) hx hb dX3_row_51 (by decide) ?_
            subst eQ
            exact W.iret (v := (-11)) hx hb hr (fun t ht hW => ⟨⟨(-11), (), rfl, (by first | (simp only [rs_row, ← ez_10]; done) | (simp only [rs_row, ← ez_10] <;> (repeat' split) <;> first | (exfalso; omega) | assumption | trivial | rfl) | (simp only [rs_row, ez_10] <;> (repeat' split) <;> first | (exfalso; omega) | assumption | trivial | rfl | contradiction) | (subst ez_10; simp only [rs_row] <;> (repeat' split) <;> first | (exfalso; omega) | assumption | trivial | rfl)), f, hPI, ⟨hfr, (by rw [show rw_rowR fS fC fR p0 p1 = fR from (by first | (simp only [rw_rowR, ← ez_10]; done) | (simp only [rw_rowR, ← ez_10] <;> (repeat' split) <;> first | (exfalso; omega) | assumption | trivial | rfl) | (simp only [rw_rowR, ez_10] <;> (repeat' split) <;> first | (exfalso; omega) | assumption | trivial | rfl | contradiction) | (subst ez_10; simp only [rw_rowR] <;> (repeat' split) <;> first | (exfalso; omega) | assumption | trivial | rfl)), show rw_rowW fS fC fW p0 p1 = fW from (by first | (simp only [rw_rowW, ← ez_10]; done) | (simp only [rw_rowW, ← ez_10] <;> (repeat' split) <;> first | (exfalso; omega) | assumption | trivial | rfl) | (simp only [rw_rowW, ez_10] <;> (repeat' split) <;> first | (exfalso; omega) | assumption | trivial | rfl | contradiction) | (subst ez_10; simp only [rw_rowW] <;> (repeat' split) <;> first | (exfalso; omega) | assumption | trivial | rfl))]; exact hRV)⟩, by rw [ht]; exact hP, hD⟩, hS.F ht⟩) hS.2.2 dX3_row_53
        · have c_8 := mt Int32.le_iff_toInt_le.mpr c_8
          refine lv_iload_n hx hb dX3_row_32 rfl (lv_at hl 2 rfl) ?_
          refine lv_bipush (v := (-4)) hx hb dX3_row_33 (by decide) ?_
          refine lv_icmp_eq (tgt := 41) hx hb dX3_row_35 (by decide) (fun c_90 => ?_) (fun c_90 => ?_)
          · have c_90 := congrArg Int32.toInt c_90
            refine lv_aload_n hx hb dX3_row_41 rfl (lv_at hl 0 rfl) ?_
            obtain ⟨k_91, hk_91⟩ := va_plg hg0.1 e_1
            refine va_get (D := (dC, dI)) (ci := 3) (v := .ref s1_1) (C := RX3) (T := TX3) (N := 23) hx hb hts iX3_ hown hK hP k_91 hk_91 rfl 0 (by decide) (hts (.fieldLink RX3 7 "FieldLeavesModel" "slot" "[I") (by decide +kernel)) (fun _ h9 => h9) rfl dX3_row_42 ?_
            refine lv_iload_n hx hb dX3_row_45 rfl (lv_at hl 1 rfl) ?_
            obtain ⟨k_92, hk_92⟩ := va_plg fs1_1.1 eg11
            have h_92 : vp_in p0 12 := (vp_in_iff.mpr (by constructor <;> omega))
            refine va_iald hx hb hK hP k_92 0 hk_92 rfl h_92 dX3_row_46 ?_
            refine lv_topi (fun z_92 ez_92 => ?_)
            have fz_92 := fg11 _ (vp_lt h_92)
            rw [← ez_92] at fz_92
            have hdez_92 := congrArg Int32.toInt ez_92
            refine lv_iconst (v := (-1)) hx hb dX3_row_47 (by decide) ?_
            refine lv_icmp_ne (tgt := 54) hx hb dX3_row_48 (by decide) (fun c_93 => ?_) (fun c_93 => ?_)
            · have c_93 := mt Int32.toInt_inj.mp c_93
              refine lv_aload_n hx hb dX3_row_54 rfl (lv_at hl 0 rfl) ?_
              obtain ⟨k_94, hk_94⟩ := va_plg hg0.1 e_1
              refine va_get (D := (dC, dI)) (ci := 3) (v := .ref s4_1) (C := RX3) (T := TX3) (N := 23) hx hb hts iX3_ hown hK hP k_94 hk_94 rfl 3 (by decide) (hts (.fieldLink RX3 21 "FieldLeavesModel" "rowSize" "[I") (by decide +kernel)) (fun _ h9 => h9) rfl dX3_row_55 ?_
              refine lv_aload_n hx hb dX3_row_58 rfl (lv_at hl 0 rfl) ?_
              obtain ⟨k_95, hk_95⟩ := va_plg hg0.1 e_1
              refine va_get (D := (dC, dI)) (ci := 3) (v := .ref s1_1) (C := RX3) (T := TX3) (N := 23) hx hb hts iX3_ hown hK hP k_95 hk_95 rfl 0 (by decide) (hts (.fieldLink RX3 7 "FieldLeavesModel" "slot" "[I") (by decide +kernel)) (fun _ h9 => h9) rfl dX3_row_59 ?_
              refine lv_iload_n hx hb dX3_row_62 rfl (lv_at hl 1 rfl) ?_
              obtain ⟨k_96, hk_96⟩ := va_plg fs1_1.1 eg11
              have h_96 : vp_in p0 12 := (vp_in_iff.mpr (by constructor <;> omega))
              refine va_iald hx hb hK hP k_96 0 hk_96 rfl h_96 dX3_row_63 ?_
              refine lv_topi (fun z_96 ez_96 => ?_)
              obtain rfl : z_92 = z_96 := ez_92.trans ez_96.symm
              refine lv_iload_n hx hb dX3_row_64 rfl (lv_at hl 2 rfl) ?_
              refine lv_bipush (v := (-4)) hx hb dX3_row_65 (by decide) ?_
              refine lv_icmp_ne (tgt := 74) hx hb dX3_row_67 (by decide) (fun c_97 => ?_) (fun c_97 => ?_)
              · have c_97 := mt Int32.toInt_inj.mp c_97
                refine lv_iload_n hx hb dX3_row_74 rfl (lv_at hl 2 rfl) ?_
                obtain ⟨k_98, hk_98⟩ := va_plg fs4_1.1 eg14
                have h_98 : vp_in z_92 6400 := (vp_in_iff.mpr (by constructor <;> omega))
                have fw_98 := updS (P := fun v => -1 ≤ v.toInt ∧ v.toInt ≤ 20) (k := Int32.toNatClampNeg z_92) (v := p1) fg14 (by omega)
                have hD9 := hD
                refine va_iast hx hb hK hP hD hS k_98 0 hk_98 rfl h_98 dX3_row_75 (fun H locs hP hD hS => ?_)
                have hP : va_P (dC, dI) vwCl (va_pl L (va_up f s4_1 (.inl (kI, 6400, .inl (upd fR (Int32.toNatClampNeg z_92) p1))))) H := by rw [← va_pls hD9 fs4_1.1 hk_98 _]; exact hP
                have hD : va_D A (va_pl L (va_up f s4_1 (.inl (kI, 6400, .inl (upd fR (Int32.toNatClampNeg z_92) p1))))) := by rw [← va_pls hD9 fs4_1.1 hk_98 _]; exact hD
                have hPI := hPI.put (e := .inl (kI, 6400, .inl (upd fR (Int32.toNatClampNeg z_92) p1))) fs4_1 ⟨_, rfl, fw_98⟩
                have es_f_99 : va_up f s4_1 (.inl (kI, 6400, .inl (upd fR (Int32.toNatClampNeg z_92) p1))) s4_1 = .inl (kI, 6400, .inl (upd fR (Int32.toNatClampNeg z_92) p1)) := va_up_self _ _ _
                have eq_100 := (va_up_ne f (.inl (kI, 6400, .inl (upd fR (Int32.toNatClampNeg z_92) p1))) (isr_ne hg0 fs4_1 (by decide))).trans e_1
                have eq_101 := (va_up_ne f (.inl (kI, 6400, .inl (upd fR (Int32.toNatClampNeg z_92) p1))) (isr_ne fs1_1 fs4_1 (by decide))).trans eg11
                have eq_102 := (va_up_ne f (.inl (kI, 6400, .inl (upd fR (Int32.toNatClampNeg z_92) p1))) (isr_ne fs2_1 fs4_1 (by decide))).trans eg12
                have eq_103 := (va_up_ne f (.inl (kI, 6400, .inl (upd fR (Int32.toNatClampNeg z_92) p1))) (isr_ne fs3_1 fs4_1 (by decide))).trans eg13
                have eq_104 := (va_up_ne f (.inl (kI, 6400, .inl (upd fR (Int32.toNatClampNeg z_92) p1))) (isr_ne fs5_1 fs4_1 (by decide))).trans eg15
                have eq_105 := (va_up_ne f (.inl (kI, 6400, .inl (upd fR (Int32.toNatClampNeg z_92) p1))) (isr_ne fs8_1 fs4_1 (by decide))).trans eg18
                have eq_106 := (va_up_ne f (.inl (kI, 6400, .inl (upd fR (Int32.toNatClampNeg z_92) p1))) (isr_ne fs9_1 fs4_1 (by decide))).trans eg19
                have eq_107 := (va_up_ne f (.inl (kI, 6400, .inl (upd fR (Int32.toNatClampNeg z_92) p1))) (isr_ne fs10_1 fs4_1 (by decide))).trans eg20
                have hfr := fr_up (S := (sK [14, 15])) (e := .inl (kI, 6400, .inl (upd fR (Int32.toNatClampNeg z_92) p1))) hfr fs4_1 (by decide)
                generalize hg_f_99 : va_up f s4_1 (.inl (kI, 6400, .inl (upd fR (Int32.toNatClampNeg z_92) p1))) = f_99 at hP hD hPI es_f_99 eq_100 eq_101 eq_102 eq_103 eq_104 eq_105 eq_106 eq_107 hfr
                refine lv_iconst (v := 0) hx hb dX3_row_76 (by decide) ?_
                refine lv_istore_n (lv' := [(3, .int 0), (0, .ref g0), (1, .int p0), (2, .int p1)]) hx hb dX3_row_77 rfl hl (by decide) rfl (fun ls hl => ?_)
                have hfrE78 := hfr
                have loop_78 : ∀ (n : Nat) (i3 : Int32)   (fl : Nat → va_E) (H : Heap) (locs : List Loc) (ls : Array Slot), (0 ≤ i3.toInt ∧ i3.toInt ≤ 20 ∧ (i3.toInt ≤ p1.toInt ∨ i3.toInt = 0)) → (20 - i3.toInt).toNat < n → (FR (sK [14, 15]) K L f_99 fl ∧ (RV kI kJ K L fl g0 fS fC fF ((upd fR (Int32.toNatClampNeg z_92) p1)) (wip fW (20 * Int32.toNatClampNeg z_92) (Int32.toNatClampNeg i3)) lo ld lv lm_1 pa_1)) → PR kI kJ kZ K L fl → va_P (dC, dI) vwCl (va_pl L fl) H → va_D A (va_pl L fl) → va_S A s.heap H locs → lv_has ls 4 [(3, .int i3), (0, .ref g0), (1, .int p0), (2, .int p1)] → W p l e (headSpec wsX3_row ({ frames := 2, cells := 0, slots := 0, locals := 45 } : Room)).room s m (([.ref g0, .int p0, .int p1] : List Value).toArray) below meth c H locs 0 0 Q0 (F0 m 78 ls []) := by
                  intro n
                  induction n with
                  | zero => intro i3 fl H locs ls  _ h9; exact absurd h9 (Nat.not_lt_zero _)
                  | succ n ih_78 =>
                    intro i3 fl H locs ls  hI hM hFN hPI hP hD hS hl
                    obtain ⟨hfr, hFN⟩ := hFN
                    have eq_108 := (hfr g0 hg0.1 (by rw [hg0.2]; rfl)).trans eq_100
                    have eq_109 := (hfr s1_1 fs1_1.1 (by rw [fs1_1.2]; rfl)).trans eq_101
                    have eq_110 := (hfr s2_1 fs2_1.1 (by rw [fs2_1.2]; rfl)).trans eq_102
                    have eq_111 := (hfr s3_1 fs3_1.1 (by rw [fs3_1.2]; rfl)).trans eq_103
                    have eq_112 := (hfr s8_1 fs8_1.1 (by rw [fs8_1.2]; rfl)).trans eq_105
                    have eq_113 := (hfr s9_1 fs9_1.1 (by rw [fs9_1.2]; rfl)).trans eq_106
                    have eq_114 := (hfr s10_1 fs10_1.1 (by rw [fs10_1.2]; rfl)).trans eq_107
                    have hRV9 := hFN
                    have eg_115 := hRV9.2.1.1 s4_1 fs4_1
                    have fg_115 := (hPI.a14 fs4_1).of eg_115
                    have eg_116 := hRV9.2.1.2 s5_1 fs5_1
                    have fg_116 := (hPI.a15 fs5_1).of eg_116
                    refine lv_iload_n hx hb dX3_row_78 rfl (lv_at hl 0 rfl) ?_
                    refine lv_iload_n hx hb dX3_row_79 rfl (lv_at hl 3 rfl) ?_
                    refine lv_icmp_ge (tgt := 106) hx hb dX3_row_80 (by decide) (fun c_117 => ?_) (fun c_117 => ?_)
                    · have c_117 := Int32.le_iff_toInt_le.mp c_117
                      have hq_x := clamp_eq (i := i3) (n := p1) (by omega)
                      refine lv_iload_n hx hb dX3_row_106 rfl (lv_at hl 3 rfl) ?_
                      subst eQ
                      exact W.iret (v := p1) hx hb hr (fun t ht hW => ⟨⟨p1, (), rfl, (by first | (simp only [rs_row, ← ez_92, hq_x]; done) | (simp only [rs_row, ← ez_92, hq_x] <;> (repeat' split) <;> first | (exfalso; omega) | assumption | trivial | rfl) | (simp only [rs_row, ez_92, hq_x] <;> (repeat' split) <;> first | (exfalso; omega) | assumption | trivial | rfl | contradiction) | (subst ez_92; simp only [rs_row, hq_x] <;> (repeat' split) <;> first | (exfalso; omega) | assumption | trivial | rfl)), fl, hPI, ⟨(FR.tr hfrE78 hfr (fun _ h => h)), (by rw [show rw_rowR fS fC fR p0 p1 = (upd fR (Int32.toNatClampNeg z_92) p1) from (by first | (simp only [rw_rowR, ← ez_92, hq_x]; done) | (simp only [rw_rowR, ← ez_92, hq_x] <;> (repeat' split) <;> first | (exfalso; omega) | assumption | trivial | rfl) | (simp only [rw_rowR, ez_92, hq_x] <;> (repeat' split) <;> first | (exfalso; omega) | assumption | trivial | rfl | contradiction) | (subst ez_92; simp only [rw_rowR, hq_x] <;> (repeat' split) <;> first | (exfalso; omega) | assumption | trivial | rfl)), show rw_rowW fS fC fW p0 p1 = (wip fW (20 * Int32.toNatClampNeg z_92) (Int32.toNatClampNeg i3)) from (by first | (simp only [rw_rowW, ← ez_92, hq_x]; done) | (simp only [rw_rowW, ← ez_92, hq_x] <;> (repeat' split) <;> first | (exfalso; omega) | assumption | trivial | rfl) | (simp only [rw_rowW, ez_92, hq_x] <;> (repeat' split) <;> first | (exfalso; omega) | assumption | trivial | rfl | contradiction) | (subst ez_92; simp only [rw_rowW, hq_x] <;> (repeat' split) <;> first | (exfalso; omega) | assumption | trivial | rfl))]; exact ⟨SV.mk hU fs1_1 fs2_1 fs3_1 eq_109 eq_110 eq_111, ⟨un_row hU fs4_1 eg_115, un_row hU fs5_1 eg_116⟩, ⟨un_row hU fs8_1 eq_112, un_row hU fs9_1 eq_113, un_row hU fs10_1 eq_114⟩, (by rw [eq_108]; rfl), (by rw [eq_108]; rfl)⟩)⟩, by rw [ht]; exact hP, hD⟩, hS.F ht⟩) hS.2.2 dX3_row_107
                    · have c_117 := mt Int32.le_iff_toInt_le.mpr c_117
                      refine lv_aload_n hx hb dX3_row_83 rfl (lv_at hl 1 rfl) ?_
                      obtain ⟨k_118, hk_118⟩ := va_plg hg0.1 eq_108
                      refine va_get (D := (dC, dI)) (ci := 3) (v := .ref s5_1) (C := RX3) (T := TX3) (N := 23) hx hb hts iX3_ hown hK hP k_118 hk_118 rfl 4 (by decide) (hts (.fieldLink RX3 25 "FieldLeavesModel" "rows" "[I") (by decide +kernel)) (fun _ h9 => h9) rfl dX3_row_84 ?_
                      refine lv_bipush (v := 20) hx hb dX3_row_87 (by decide) ?_
                      refine lv_aload_n hx hb dX3_row_89 rfl (lv_at hl 1 rfl) ?_
                      obtain ⟨k_119, hk_119⟩ := va_plg hg0.1 eq_108
                      refine va_get (D := (dC, dI)) (ci := 3) (v := .ref s1_1) (C := RX3) (T := TX3) (N := 23) hx hb hts iX3_ hown hK hP k_119 hk_119 rfl 0 (by decide) (hts (.fieldLink RX3 7 "FieldLeavesModel" "slot" "[I") (by decide +kernel)) (fun _ h9 => h9) rfl dX3_row_90 ?_
                      refine lv_iload_n hx hb dX3_row_93 rfl (lv_at hl 2 rfl) ?_
                      obtain ⟨k_120, hk_120⟩ := va_plg fs1_1.1 eq_109
                      have h_120 : vp_in p0 12 := (vp_in_iff.mpr (by constructor <;> omega))
                      refine va_iald hx hb hK hP k_120 0 hk_120 rfl h_120 dX3_row_94 ?_
                      refine lv_topi (fun z_120 ez_120 => ?_)
                      obtain rfl : z_92 = z_120 := ez_92.trans ez_120.symm
                      refine lv_imul hx hb dX3_row_95 ?_
                      refine lv_topi (fun z_121 ez_121 => ?_)
                      have kz_121 := mul20 ez_121 (by omega) (by omega)
                      refine lv_iload_n hx hb dX3_row_96 rfl (lv_at hl 0 rfl) ?_
                      refine lv_iadd hx hb dX3_row_97 ?_
                      refine lv_topi (fun z_122 ez_122 => ?_)
                      have kz_122 := add_toInt ez_122 (by omega) (by omega)
                      refine lv_iconst (v := 0) hx hb dX3_row_98 (by decide) ?_
                      obtain ⟨k_123, hk_123⟩ := va_plg fs5_1.1 eg_116
                      have hq_i_124 := idx20 (o := z_92) (f := i3) (w := z_122) (by omega) (by omega) (by omega)
                      have h_123 : vp_in z_122 128000 := (vp_in_iff.mpr (by constructor <;> omega))
                      have fw_123 := trivial
                      have hD9 := hD
                      refine va_iast hx hb hK hP hD hS k_123 0 hk_123 rfl h_123 dX3_row_99 (fun H locs hP hD hS => ?_)
                      have hP : va_P (dC, dI) vwCl (va_pl L (va_up fl s5_1 (.inl (kI, 128000, .inl (upd (wip fW (20 * Int32.toNatClampNeg z_92) (Int32.toNatClampNeg i3)) (Int32.toNatClampNeg z_122) 0))))) H := by rw [← va_pls hD9 fs5_1.1 hk_123 _]; exact hP
                      have hD : va_D A (va_pl L (va_up fl s5_1 (.inl (kI, 128000, .inl (upd (wip fW (20 * Int32.toNatClampNeg z_92) (Int32.toNatClampNeg i3)) (Int32.toNatClampNeg z_122) 0))))) := by rw [← va_pls hD9 fs5_1.1 hk_123 _]; exact hD
                      have hPI := hPI.put (e := .inl (kI, 128000, .inl (upd (wip fW (20 * Int32.toNatClampNeg z_92) (Int32.toNatClampNeg i3)) (Int32.toNatClampNeg z_122) 0))) fs5_1 ⟨_, rfl, fw_123⟩
                      have es_f_125 : va_up fl s5_1 (.inl (kI, 128000, .inl (upd (wip fW (20 * Int32.toNatClampNeg z_92) (Int32.toNatClampNeg i3)) (Int32.toNatClampNeg z_122) 0))) s5_1 = .inl (kI, 128000, .inl (upd (wip fW (20 * Int32.toNatClampNeg z_92) (Int32.toNatClampNeg i3)) (Int32.toNatClampNeg z_122) 0)) := va_up_self _ _ _
                      have eq_126 := (va_up_ne fl (.inl (kI, 128000, .inl (upd (wip fW (20 * Int32.toNatClampNeg z_92) (Int32.toNatClampNeg i3)) (Int32.toNatClampNeg z_122) 0))) (isr_ne hg0 fs5_1 (by decide))).trans eq_108
                      have eq_127 := (va_up_ne fl (.inl (kI, 128000, .inl (upd (wip fW (20 * Int32.toNatClampNeg z_92) (Int32.toNatClampNeg i3)) (Int32.toNatClampNeg z_122) 0))) (isr_ne fs1_1 fs5_1 (by decide))).trans eq_109
                      have eq_128 := (va_up_ne fl (.inl (kI, 128000, .inl (upd (wip fW (20 * Int32.toNatClampNeg z_92) (Int32.toNatClampNeg i3)) (Int32.toNatClampNeg z_122) 0))) (isr_ne fs2_1 fs5_1 (by decide))).trans eq_110
                      have eq_129 := (va_up_ne fl (.inl (kI, 128000, .inl (upd (wip fW (20 * Int32.toNatClampNeg z_92) (Int32.toNatClampNeg i3)) (Int32.toNatClampNeg z_122) 0))) (isr_ne fs3_1 fs5_1 (by decide))).trans eq_111
                      have eq_130 := (va_up_ne fl (.inl (kI, 128000, .inl (upd (wip fW (20 * Int32.toNatClampNeg z_92) (Int32.toNatClampNeg i3)) (Int32.toNatClampNeg z_122) 0))) (isr_ne fs8_1 fs5_1 (by decide))).trans eq_112
                      have eq_131 := (va_up_ne fl (.inl (kI, 128000, .inl (upd (wip fW (20 * Int32.toNatClampNeg z_92) (Int32.toNatClampNeg i3)) (Int32.toNatClampNeg z_122) 0))) (isr_ne fs9_1 fs5_1 (by decide))).trans eq_113
                      have eq_132 := (va_up_ne fl (.inl (kI, 128000, .inl (upd (wip fW (20 * Int32.toNatClampNeg z_92) (Int32.toNatClampNeg i3)) (Int32.toNatClampNeg z_122) 0))) (isr_ne fs10_1 fs5_1 (by decide))).trans eq_114
                      have eq_133 := (va_up_ne fl (.inl (kI, 128000, .inl (upd (wip fW (20 * Int32.toNatClampNeg z_92) (Int32.toNatClampNeg i3)) (Int32.toNatClampNeg z_122) 0))) (isr_ne fs4_1 fs5_1 (by decide))).trans eg_115
                      have hfr := fr_up (S := (sK [14, 15])) (e := .inl (kI, 128000, .inl (upd (wip fW (20 * Int32.toNatClampNeg z_92) (Int32.toNatClampNeg i3)) (Int32.toNatClampNeg z_122) 0))) hfr fs5_1 (by decide)
                      generalize hg_f_125 : va_up fl s5_1 (.inl (kI, 128000, .inl (upd (wip fW (20 * Int32.toNatClampNeg z_92) (Int32.toNatClampNeg i3)) (Int32.toNatClampNeg z_122) 0))) = f_125 at hP hD hPI es_f_125 eq_126 eq_127 eq_128 eq_129 eq_130 eq_131 eq_132 eq_133 hfr
                      obtain ⟨i_134, ei_134⟩ : ∃ y : Int32, y = i3 + 1 := ⟨_, rfl⟩
                      refine lv_iinc (v := i_134) (lv' := [(3, .int i_134), (0, .ref g0), (1, .int p0), (2, .int p1)]) hx hb dX3_row_100 hl (k := 0) rfl (by rw [ei_134]; rfl) (by decide) rfl (fun ls hl => ?_)
                      have ki_134 := inc_toInt ei_134 (by omega)
                      refine lv_goto (tgt := 78) hx hb dX3_row_103 (by decide) ?_
                      exact ih_78 i_134 f_125 _ _ _  (by omega) (by omega) ⟨hfr, (by rw [cl_succ (by omega) ki_134, ← wip_step, ← hq_i_124]; exact ⟨SV.mk hU fs1_1 fs2_1 fs3_1 eq_127 eq_128 eq_129, ⟨un_row hU fs4_1 eq_133, un_row hU fs5_1 es_f_125⟩, ⟨un_row hU fs8_1 eq_130, un_row hU fs9_1 eq_131, un_row hU fs10_1 eq_132⟩, (by rw [eq_126]; rfl), (by rw [eq_126]; rfl)⟩)⟩ hPI hP hD hS (lv_sub hl [0, 1, 2, 3] rfl)
                exact loop_78 21 0 f_99 _ _ _  (by omega) (by omega) ⟨FR.rf, (by rw [cl_0, wip_0]; exact ⟨SV.mk hU fs1_1 fs2_1 fs3_1 eq_101 eq_102 eq_103, ⟨un_row hU fs4_1 es_f_99, un_row hU fs5_1 eq_104⟩, ⟨un_row hU fs8_1 eq_105, un_row hU fs9_1 eq_106, un_row hU fs10_1 eq_107⟩, (by rw [eq_100]; rfl), (by rw [eq_100]; rfl)⟩)⟩ hPI hP hD hS hl
              · have c_97 := congrArg Int32.toInt c_97
                refine lv_iconst (v := (-1)) hx hb dX3_row_70 (by decide) ?_
                refine lv_goto (tgt := 75) hx hb dX3_row_71 (by decide) ?_
                obtain ⟨k_135, hk_135⟩ := va_plg fs4_1.1 eg14
                have h_135 : vp_in z_92 6400 := (vp_in_iff.mpr (by constructor <;> omega))
                have fw_135 := updS (P := fun v => -1 ≤ v.toInt ∧ v.toInt ≤ 20) (k := Int32.toNatClampNeg z_92) (v := (-1)) fg14 (by omega)
                have hD9 := hD
                refine va_iast hx hb hK hP hD hS k_135 0 hk_135 rfl h_135 dX3_row_75 (fun H locs hP hD hS => ?_)
                have hP : va_P (dC, dI) vwCl (va_pl L (va_up f s4_1 (.inl (kI, 6400, .inl (upd fR (Int32.toNatClampNeg z_92) (-1)))))) H := by rw [← va_pls hD9 fs4_1.1 hk_135 _]; exact hP
                have hD : va_D A (va_pl L (va_up f s4_1 (.inl (kI, 6400, .inl (upd fR (Int32.toNatClampNeg z_92) (-1)))))) := by rw [← va_pls hD9 fs4_1.1 hk_135 _]; exact hD
                have hPI := hPI.put (e := .inl (kI, 6400, .inl (upd fR (Int32.toNatClampNeg z_92) (-1)))) fs4_1 ⟨_, rfl, fw_135⟩
                have es_f_136 : va_up f s4_1 (.inl (kI, 6400, .inl (upd fR (Int32.toNatClampNeg z_92) (-1)))) s4_1 = .inl (kI, 6400, .inl (upd fR (Int32.toNatClampNeg z_92) (-1))) := va_up_self _ _ _
                have eq_137 := (va_up_ne f (.inl (kI, 6400, .inl (upd fR (Int32.toNatClampNeg z_92) (-1)))) (isr_ne hg0 fs4_1 (by decide))).trans e_1
                have eq_138 := (va_up_ne f (.inl (kI, 6400, .inl (upd fR (Int32.toNatClampNeg z_92) (-1)))) (isr_ne fs1_1 fs4_1 (by decide))).trans eg11
                have eq_139 := (va_up_ne f (.inl (kI, 6400, .inl (upd fR (Int32.toNatClampNeg z_92) (-1)))) (isr_ne fs2_1 fs4_1 (by decide))).trans eg12
                have eq_140 := (va_up_ne f (.inl (kI, 6400, .inl (upd fR (Int32.toNatClampNeg z_92) (-1)))) (isr_ne fs3_1 fs4_1 (by decide))).trans eg13
                have eq_141 := (va_up_ne f (.inl (kI, 6400, .inl (upd fR (Int32.toNatClampNeg z_92) (-1)))) (isr_ne fs5_1 fs4_1 (by decide))).trans eg15
                have eq_142 := (va_up_ne f (.inl (kI, 6400, .inl (upd fR (Int32.toNatClampNeg z_92) (-1)))) (isr_ne fs8_1 fs4_1 (by decide))).trans eg18
                have eq_143 := (va_up_ne f (.inl (kI, 6400, .inl (upd fR (Int32.toNatClampNeg z_92) (-1)))) (isr_ne fs9_1 fs4_1 (by decide))).trans eg19
                have eq_144 := (va_up_ne f (.inl (kI, 6400, .inl (upd fR (Int32.toNatClampNeg z_92) (-1)))) (isr_ne fs10_1 fs4_1 (by decide))).trans eg20
                have hfr := fr_up (S := (sK [14, 15])) (e := .inl (kI, 6400, .inl (upd fR (Int32.toNatClampNeg z_92) (-1)))) hfr fs4_1 (by decide)
                generalize hg_f_136 : va_up f s4_1 (.inl (kI, 6400, .inl (upd fR (Int32.toNatClampNeg z_92) (-1)))) = f_136 at hP hD hPI es_f_136 eq_137 eq_138 eq_139 eq_140 eq_141 eq_142 eq_143 eq_144 hfr
                refine lv_iconst (v := 0) hx hb dX3_row_76 (by decide) ?_
                refine lv_istore_n (lv' := [(3, .int 0), (0, .ref g0), (1, .int p0), (2, .int p1)]) hx hb dX3_row_77 rfl hl (by decide) rfl (fun ls hl => ?_)
                have hfrE78 := hfr
                have loop_78 : ∀ (n : Nat) (i3 : Int32)   (fl : Nat → va_E) (H : Heap) (locs : List Loc) (ls : Array Slot), (0 ≤ i3.toInt ∧ i3.toInt ≤ 20 ∧ (i3.toInt ≤ p1.toInt ∨ i3.toInt = 0)) → (20 - i3.toInt).toNat < n → (FR (sK [14, 15]) K L f_136 fl ∧ (RV kI kJ K L fl g0 fS fC fF ((upd fR (Int32.toNatClampNeg z_92) (-1))) (wip fW (20 * Int32.toNatClampNeg z_92) (Int32.toNatClampNeg i3)) lo ld lv lm_1 pa_1)) → PR kI kJ kZ K L fl → va_P (dC, dI) vwCl (va_pl L fl) H → va_D A (va_pl L fl) → va_S A s.heap H locs → lv_has ls 4 [(3, .int i3), (0, .ref g0), (1, .int p0), (2, .int p1)] → W p l e (headSpec wsX3_row ({ frames := 2, cells := 0, slots := 0, locals := 45 } : Room)).room s m (([.ref g0, .int p0, .int p1] : List Value).toArray) below meth c H locs 0 0 Q0 (F0 m 78 ls []) := by
                  intro n
                  induction n with
                  | zero => intro i3 fl H locs ls  _ h9; exact absurd h9 (Nat.not_lt_zero _)
                  | succ n ih_78 =>
                    intro i3 fl H locs ls  hI hM hFN hPI hP hD hS hl
                    obtain ⟨hfr, hFN⟩ := hFN
                    have eq_145 := (hfr g0 hg0.1 (by rw [hg0.2]; rfl)).trans eq_137
                    have eq_146 := (hfr s1_1 fs1_1.1 (by rw [fs1_1.2]; rfl)).trans eq_138
                    have eq_147 := (hfr s2_1 fs2_1.1 (by rw [fs2_1.2]; rfl)).trans eq_139
                    have eq_148 := (hfr s3_1 fs3_1.1 (by rw [fs3_1.2]; rfl)).trans eq_140
                    have eq_149 := (hfr s8_1 fs8_1.1 (by rw [fs8_1.2]; rfl)).trans eq_142
                    have eq_150 := (hfr s9_1 fs9_1.1 (by rw [fs9_1.2]; rfl)).trans eq_143
                    have eq_151 := (hfr s10_1 fs10_1.1 (by rw [fs10_1.2]; rfl)).trans eq_144
                    have hRV9 := hFN
                    have eg_152 := hRV9.2.1.1 s4_1 fs4_1
                    have fg_152 := (hPI.a14 fs4_1).of eg_152
                    have eg_153 := hRV9.2.1.2 s5_1 fs5_1
                    have fg_153 := (hPI.a15 fs5_1).of eg_153
                    refine lv_iload_n hx hb dX3_row_78 rfl (lv_at hl 0 rfl) ?_
                    refine lv_iload_n hx hb dX3_row_79 rfl (lv_at hl 3 rfl) ?_
                    refine lv_icmp_ge (tgt := 106) hx hb dX3_row_80 (by decide) (fun c_154 => ?_) (fun c_154 => ?_)
                    · have c_154 := Int32.le_iff_toInt_le.mp c_154
                      have hq_x := clamp_eq (i := i3) (n := p1) (by omega)
                      refine lv_iload_n hx hb dX3_row_106 rfl (lv_at hl 3 rfl) ?_
                      subst eQ
                      exact W.iret (v := p1) hx hb hr (fun t ht hW => ⟨⟨p1, (), rfl, (by first | (simp only [rs_row, ← ez_92, hq_x]; done) | (simp only [rs_row, ← ez_92, hq_x] <;> (repeat' split) <;> first | (exfalso; omega) | assumption | trivial | rfl) | (simp only [rs_row, ez_92, hq_x] <;> (repeat' split) <;> first | (exfalso; omega) | assumption | trivial | rfl | contradiction) | (subst ez_92; simp only [rs_row, hq_x] <;> (repeat' split) <;> first | (exfalso; omega) | assumption | trivial | rfl)), fl, hPI, ⟨(FR.tr hfrE78 hfr (fun _ h => h)), (by rw [show rw_rowR fS fC fR p0 p1 = (upd fR (Int32.toNatClampNeg z_92) (-1)) from (by first | (simp only [rw_rowR, ← ez_92, hq_x]; done) | (simp only [rw_rowR, ← ez_92, hq_x] <;> (repeat' split) <;> first | (exfalso; omega) | assumption | trivial | rfl) | (simp only [rw_rowR, ez_92, hq_x] <;> (repeat' split) <;> first | (exfalso; omega) | assumption | trivial | rfl | contradiction) | (subst ez_92; simp only [rw_rowR, hq_x] <;> (repeat' split) <;> first | (exfalso; omega) | assumption | trivial | rfl)), show rw_rowW fS fC fW p0 p1 = (wip fW (20 * Int32.toNatClampNeg z_92) (Int32.toNatClampNeg i3)) from (by first | (simp only [rw_rowW, ← ez_92, hq_x]; done) | (simp only [rw_rowW, ← ez_92, hq_x] <;> (repeat' split) <;> first | (exfalso; omega) | assumption | trivial | rfl) | (simp only [rw_rowW, ez_92, hq_x] <;> (repeat' split) <;> first | (exfalso; omega) | assumption | trivial | rfl | contradiction) | (subst ez_92; simp only [rw_rowW, hq_x] <;> (repeat' split) <;> first | (exfalso; omega) | assumption | trivial | rfl))]; exact ⟨SV.mk hU fs1_1 fs2_1 fs3_1 eq_146 eq_147 eq_148, ⟨un_row hU fs4_1 eg_152, un_row hU fs5_1 eg_153⟩, ⟨un_row hU fs8_1 eq_149, un_row hU fs9_1 eq_150, un_row hU fs10_1 eq_151⟩, (by rw [eq_145]; rfl), (by rw [eq_145]; rfl)⟩)⟩, by rw [ht]; exact hP, hD⟩, hS.F ht⟩) hS.2.2 dX3_row_107
                    · have c_154 := mt Int32.le_iff_toInt_le.mpr c_154
                      refine lv_aload_n hx hb dX3_row_83 rfl (lv_at hl 1 rfl) ?_
                      obtain ⟨k_155, hk_155⟩ := va_plg hg0.1 eq_145
                      refine va_get (D := (dC, dI)) (ci := 3) (v := .ref s5_1) (C := RX3) (T := TX3) (N := 23) hx hb hts iX3_ hown hK hP k_155 hk_155 rfl 4 (by decide) (hts (.fieldLink RX3 25 "FieldLeavesModel" "rows" "[I") (by decide +kernel)) (fun _ h9 => h9) rfl dX3_row_84 ?_
                      refine lv_bipush (v := 20) hx hb dX3_row_87 (by decide) ?_
                      refine lv_aload_n hx hb dX3_row_89 rfl (lv_at hl 1 rfl) ?_
                      obtain ⟨k_156, hk_156⟩ := va_plg hg0.1 eq_145
                      refine va_get (D := (dC, dI)) (ci := 3) (v := .ref s1_1) (C := RX3) (T := TX3) (N := 23) hx hb hts iX3_ hown hK hP k_156 hk_156 rfl 0 (by decide) (hts (.fieldLink RX3 7 "FieldLeavesModel" "slot" "[I") (by decide +kernel)) (fun _ h9 => h9) rfl dX3_row_90 ?_
                      refine lv_iload_n hx hb dX3_row_93 rfl (lv_at hl 2 rfl) ?_
                      obtain ⟨k_157, hk_157⟩ := va_plg fs1_1.1 eq_146
                      have h_157 : vp_in p0 12 := (vp_in_iff.mpr (by constructor <;> omega))
                      refine va_iald hx hb hK hP k_157 0 hk_157 rfl h_157 dX3_row_94 ?_
                      refine lv_topi (fun z_157 ez_157 => ?_)
                      obtain rfl : z_92 = z_157 := ez_92.trans ez_157.symm
                      refine lv_imul hx hb dX3_row_95 ?_
                      refine lv_topi (fun z_158 ez_158 => ?_)
                      have kz_158 := mul20 ez_158 (by omega) (by omega)
                      refine lv_iload_n hx hb dX3_row_96 rfl (lv_at hl 0 rfl) ?_
                      refine lv_iadd hx hb dX3_row_97 ?_
                      refine lv_topi (fun z_159 ez_159 => ?_)
                      have kz_159 := add_toInt ez_159 (by omega) (by omega)
                      refine lv_iconst (v := 0) hx hb dX3_row_98 (by decide) ?_
                      obtain ⟨k_160, hk_160⟩ := va_plg fs5_1.1 eg_153
                      have hq_i_161 := idx20 (o := z_92) (f := i3) (w := z_159) (by omega) (by omega) (by omega)
                      have h_160 : vp_in z_159 128000 := (vp_in_iff.mpr (by constructor <;> omega))
                      have fw_160 := trivial
                      have hD9 := hD
                      refine va_iast hx hb hK hP hD hS k_160 0 hk_160 rfl h_160 dX3_row_99 (fun H locs hP hD hS => ?_)
                      have hP : va_P (dC, dI) vwCl (va_pl L (va_up fl s5_1 (.inl (kI, 128000, .inl (upd (wip fW (20 * Int32.toNatClampNeg z_92) (Int32.toNatClampNeg i3)) (Int32.toNatClampNeg z_159) 0))))) H := by rw [← va_pls hD9 fs5_1.1 hk_160 _]; exact hP
                      have hD : va_D A (va_pl L (va_up fl s5_1 (.inl (kI, 128000, .inl (upd (wip fW (20 * Int32.toNatClampNeg z_92) (Int32.toNatClampNeg i3)) (Int32.toNatClampNeg z_159) 0))))) := by rw [← va_pls hD9 fs5_1.1 hk_160 _]; exact hD
                      have hPI := hPI.put (e := .inl (kI, 128000, .inl (upd (wip fW (20 * Int32.toNatClampNeg z_92) (Int32.toNatClampNeg i3)) (Int32.toNatClampNeg z_159) 0))) fs5_1 ⟨_, rfl, fw_160⟩
                      have es_f_162 : va_up fl s5_1 (.inl (kI, 128000, .inl (upd (wip fW (20 * Int32.toNatClampNeg z_92) (Int32.toNatClampNeg i3)) (Int32.toNatClampNeg z_159) 0))) s5_1 = .inl (kI, 128000, .inl (upd (wip fW (20 * Int32.toNatClampNeg z_92) (Int32.toNatClampNeg i3)) (Int32.toNatClampNeg z_159) 0)) := va_up_self _ _ _
                      have eq_163 := (va_up_ne fl (.inl (kI, 128000, .inl (upd (wip fW (20 * Int32.toNatClampNeg z_92) (Int32.toNatClampNeg i3)) (Int32.toNatClampNeg z_159) 0))) (isr_ne hg0 fs5_1 (by decide))).trans eq_145
                      have eq_164 := (va_up_ne fl (.inl (kI, 128000, .inl (upd (wip fW (20 * Int32.toNatClampNeg z_92) (Int32.toNatClampNeg i3)) (Int32.toNatClampNeg z_159) 0))) (isr_ne fs1_1 fs5_1 (by decide))).trans eq_146
                      have eq_165 := (va_up_ne fl (.inl (kI, 128000, .inl (upd (wip fW (20 * Int32.toNatClampNeg z_92) (Int32.toNatClampNeg i3)) (Int32.toNatClampNeg z_159) 0))) (isr_ne fs2_1 fs5_1 (by decide))).trans eq_147
                      have eq_166 := (va_up_ne fl (.inl (kI, 128000, .inl (upd (wip fW (20 * Int32.toNatClampNeg z_92) (Int32.toNatClampNeg i3)) (Int32.toNatClampNeg z_159) 0))) (isr_ne fs3_1 fs5_1 (by decide))).trans eq_148
                      have eq_167 := (va_up_ne fl (.inl (kI, 128000, .inl (upd (wip fW (20 * Int32.toNatClampNeg z_92) (Int32.toNatClampNeg i3)) (Int32.toNatClampNeg z_159) 0))) (isr_ne fs8_1 fs5_1 (by decide))).trans eq_149
                      have eq_168 := (va_up_ne fl (.inl (kI, 128000, .inl (upd (wip fW (20 * Int32.toNatClampNeg z_92) (Int32.toNatClampNeg i3)) (Int32.toNatClampNeg z_159) 0))) (isr_ne fs9_1 fs5_1 (by decide))).trans eq_150
                      have eq_169 := (va_up_ne fl (.inl (kI, 128000, .inl (upd (wip fW (20 * Int32.toNatClampNeg z_92) (Int32.toNatClampNeg i3)) (Int32.toNatClampNeg z_159) 0))) (isr_ne fs10_1 fs5_1 (by decide))).trans eq_151
                      have eq_170 := (va_up_ne fl (.inl (kI, 128000, .inl (upd (wip fW (20 * Int32.toNatClampNeg z_92) (Int32.toNatClampNeg i3)) (Int32.toNatClampNeg z_159) 0))) (isr_ne fs4_1 fs5_1 (by decide))).trans eg_152
                      have hfr := fr_up (S := (sK [14, 15])) (e := .inl (kI, 128000, .inl (upd (wip fW (20 * Int32.toNatClampNeg z_92) (Int32.toNatClampNeg i3)) (Int32.toNatClampNeg z_159) 0))) hfr fs5_1 (by decide)
                      generalize hg_f_162 : va_up fl s5_1 (.inl (kI, 128000, .inl (upd (wip fW (20 * Int32.toNatClampNeg z_92) (Int32.toNatClampNeg i3)) (Int32.toNatClampNeg z_159) 0))) = f_162 at hP hD hPI es_f_162 eq_163 eq_164 eq_165 eq_166 eq_167 eq_168 eq_169 eq_170 hfr
                      obtain ⟨i_171, ei_171⟩ : ∃ y : Int32, y = i3 + 1 := ⟨_, rfl⟩
                      refine lv_iinc (v := i_171) (lv' := [(3, .int i_171), (0, .ref g0), (1, .int p0), (2, .int p1)]) hx hb dX3_row_100 hl (k := 0) rfl (by rw [ei_171]; rfl) (by decide) rfl (fun ls hl => ?_)
                      have ki_171 := inc_toInt ei_171 (by omega)
                      refine lv_goto (tgt := 78) hx hb dX3_row_103 (by decide) ?_
                      exact ih_78 i_171 f_162 _ _ _  (by omega) (by omega) ⟨hfr, (by rw [cl_succ (by omega) ki_171, ← wip_step, ← hq_i_161]; exact ⟨SV.mk hU fs1_1 fs2_1 fs3_1 eq_164 eq_165 eq_166, ⟨un_row hU fs4_1 eq_170, un_row hU fs5_1 es_f_162⟩, ⟨un_row hU fs8_1 eq_167, un_row hU fs9_1 eq_168, un_row hU fs10_1 eq_169⟩, (by rw [eq_163]; rfl), (by rw [eq_163]; rfl)⟩)⟩ hPI hP hD hS (lv_sub hl [0, 1, 2, 3] rfl)
                exact loop_78 21 0 f_136 _ _ _  (by omega) (by omega) ⟨FR.rf, (by rw [cl_0, wip_0]; exact ⟨SV.mk hU fs1_1 fs2_1 fs3_1 eq_138 eq_139 eq_140, ⟨un_row hU fs4_1 es_f_136, un_row hU fs5_1 eq_141⟩, ⟨un_row hU fs8_1 eq_142, un_row hU fs9_1 eq_143, un_row hU fs10_1 eq_144⟩, (by rw [eq_137]; rfl), (by rw [eq_137]; rfl)⟩)⟩ hPI hP hD hS hl
            · have c_93 := congrArg Int32.toInt c_93
              refine lv_bipush (v := (-11)) hx hb dX3_row_51 (by decide) ?_
              subst eQ
              exact W.iret (v := (-11)) hx hb hr (fun t ht hW => ⟨⟨(-11), (), rfl, (by first | (simp only [rs_row, ← ez_92]; done) | (simp only [rs_row, ← ez_92] <;> (repeat' split) <;> first | (exfalso; omega) | assumption | trivial | rfl) | (simp only [rs_row, ez_92] <;> (repeat' split) <;> first | (exfalso; omega) | assumption | trivial | rfl | contradiction) | (subst ez_92; simp only [rs_row] <;> (repeat' split) <;> first | (exfalso; omega) | assumption | trivial | rfl)), f, hPI, ⟨hfr, (by rw [show rw_rowR fS fC fR p0 p1 = fR from (by first | (simp only [rw_rowR, ← ez_92]; done) | (simp only [rw_rowR, ← ez_92] <;> (repeat' split) <;> first | (exfalso; omega) | assumption | trivial | rfl) | (simp only [rw_rowR, ez_92] <;> (repeat' split) <;> first | (exfalso; omega) | assumption | trivial | rfl | contradiction) | (subst ez_92; simp only [rw_rowR] <;> (repeat' split) <;> first | (exfalso; omega) | assumption | trivial | rfl)), show rw_rowW fS fC fW p0 p1 = fW from (by first | (simp only [rw_rowW, ← ez_92]; done) | (simp only [rw_rowW, ← ez_92] <;> (repeat' split) <;> first | (exfalso; omega) | assumption | trivial | rfl) | (simp only [rw_rowW, ez_92] <;> (repeat' split) <;> first | (exfalso; omega) | assumption | trivial | rfl | contradiction) | (subst ez_92; simp only [rw_rowW] <;> (repeat' split) <;> first | (exfalso; omega) | assumption | trivial | rfl))]; exact hRV)⟩, by rw [ht]; exact hP, hD⟩, hS.F ht⟩) hS.2.2 dX3_row_53
          · have c_90 := mt Int32.toInt_inj.mp c_90
            refine lv_bipush (v := (-13)) hx hb dX3_row_38 (by decide) ?_
            subst eQ
            exact W.iret (v := (-13)) hx hb hr (fun t ht hW => ⟨⟨(-13), (), rfl, (by first | (simp only [rs_row]; done) | (simp only [rs_row] <;> (repeat' split) <;> first | (exfalso; omega) | assumption | trivial | rfl) | (simp only [rs_row] <;> (repeat' split) <;> first | (exfalso; omega) | assumption | trivial | rfl | contradiction)), f, hPI, ⟨hfr, (by rw [show rw_rowR fS fC fR p0 p1 = fR from (by first | (simp only [rw_rowR]; done) | (simp only [rw_rowR] <;> (repeat' split) <;> first | (exfalso; omega) | assumption | trivial | rfl) | (simp only [rw_rowR] <;> (repeat' split) <;> first | (exfalso; omega) | assumption | trivial | rfl | contradiction)), show rw_rowW fS fC fW p0 p1 = fW from (by first | (simp only [rw_rowW]; done) | (simp only [rw_rowW] <;> (repeat' split) <;> first | (exfalso; omega) | assumption | trivial | rfl) | (simp only [rw_rowW] <;> (repeat' split) <;> first | (exfalso; omega) | assumption | trivial | rfl | contradiction))]; exact hRV)⟩, by rw [ht]; exact hP, hD⟩, hS.F ht⟩) hS.2.2 dX3_row_40
    · have c_4 := mt Int32.le_iff_toInt_le.mpr c_4
      refine lv_iconst (v := (-1)) hx hb dX3_row_13 (by decide) ?_
      subst eQ
      exact W.iret (v := (-1)) hx hb hr (fun t ht hW => ⟨⟨(-1), (), rfl, (by first | (simp only [rs_row]; done) | (simp only [rs_row] <;> (repeat' split) <;> first | (exfalso; omega) | assumption | trivial | rfl) | (simp only [rs_row] <;> (repeat' split) <;> first | (exfalso; omega) | assumption | trivial | rfl | contradiction)), f, hPI, ⟨hfr, (by rw [show rw_rowR fS fC fR p0 p1 = fR from (by first | (simp only [rw_rowR]; done) | (simp only [rw_rowR] <;> (repeat' split) <;> first | (exfalso; omega) | assumption | trivial | rfl) | (simp only [rw_rowR] <;> (repeat' split) <;> first | (exfalso; omega) | assumption | trivial | rfl | contradiction)), show rw_rowW fS fC fW p0 p1 = fW from (by first | (simp only [rw_rowW]; done) | (simp only [rw_rowW] <;> (repeat' split) <;> first | (exfalso; omega) | assumption | trivial | rfl) | (simp only [rw_rowW] <;> (repeat' split) <;> first | (exfalso; omega) | assumption | trivial | rfl | contradiction))]; exact hRV)⟩, by rw [ht]; exact hP, hD⟩, hS.F ht⟩) hS.2.2 dX3_row_14
  · refine lv_if_eq (tgt := 13) hx hb dX3_row_4 (by decide) (fun _ => ?_) (fun c9 => absurd c9 (by decide))
    refine lv_iconst (v := (-1)) hx hb dX3_row_13 (by decide) ?_
    subst eQ
    exact W.iret (v := (-1)) hx hb hr (fun t ht hW => ⟨⟨(-1), (), rfl, (by first | (simp only [rs_row]; done) | (simp only [rs_row] <;> (repeat' split) <;> first | (exfalso; omega) | assumption | trivial | rfl) | (simp only [rs_row] <;> (repeat' split) <;> first | (exfalso; omega) | assumption | trivial | rfl | contradiction)), f, hPI, ⟨hfr, (by rw [show rw_rowR fS fC fR p0 p1 = fR from (by first | (simp only [rw_rowR]; done) | (simp only [rw_rowR] <;> (repeat' split) <;> first | (exfalso; omega) | assumption | trivial | rfl) | (simp only [rw_rowR] <;> (repeat' split) <;> first | (exfalso; omega) | assumption | trivial | rfl | contradiction)), show rw_rowW fS fC fW p0 p1 = fW from (by first | (simp only [rw_rowW]; done) | (simp only [rw_rowW] <;> (repeat' split) <;> first | (exfalso; omega) | assumption | trivial | rfl) | (simp only [rw_rowW] <;> (repeat' split) <;> first | (exfalso; omega) | assumption | trivial | rfl | contradiction))]; exact hRV)⟩, by rw [ht]; exact hP, hD⟩, hS.F ht⟩) hS.2.2 dX3_row_14

