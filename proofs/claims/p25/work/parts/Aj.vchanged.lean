set_option maxRecDepth 20000 in
theorem in_v_X3_isChanged_X3 : ∀ w ∈ u_ws RX3 TX3 23, w ∈ wsX3_isChanged := by decide +kernel
set_option maxRecDepth 100000 in
set_option maxHeartbeats 4000000 in
theorem v_X3_isChanged (l : Launch) (dC : Nat → ClassId) (dI : Nat → Nat → Nat) (TT : Nat × Nat × Nat) (sz : Nat) (kI kJ kZ : ClassId) (K : Nat → Nat) (L : List Nat) (f : Nat → va_E) (hPI : PR kI kJ kZ K L f) (g0 : Nat) (hg0 : isr K L 10 g0) (a0 b0 f0 : Int32) (ha0 : 0 ≤ a0.toInt ∧ a0.toInt < 6400) (hb0 : 0 ≤ b0.toInt ∧ b0.toInt < 6400) (hf0 : 0 ≤ f0.toInt ∧ f0.toInt < 17) (hU : UN K L) (fS fC : Nat → Int32) (fF : Nat → Int64) (fR fW lo ld : Nat → Int32) (lv : Nat → Int64) (lm pa : Int32) (hRV : RV kI kJ K L f g0 fS fC fF fR fW lo ld lv lm pa) : Met l yX3_isChanged wsX3_isChanged ({ frames := 0, cells := 0, slots := 0, locals := 0 } : Room) (va_Pc [.ref g0, .int a0, .int b0, .int f0] (pr dC dI (va_pl L f) [] [(kI, .int), (kJ, .long), (kZ, .boolean)] sz TT)) (va_Qi (fun (r : Int32) (u : Unit) => bo r (if Int32.toNatClampNeg f0 = 9 then ¬ ((fR (Int32.toNatClampNeg a0)).toInt = (fR (Int32.toNatClampNeg b0)).toInt ∧ ∀ i : Nat, (i : Int) < (fR (Int32.toNatClampNeg a0)).toInt → fW (20 * (Int32.toNatClampNeg a0) + i) = fW (20 * (Int32.toNatClampNeg b0) + i)) else ¬ fF (17 * (Int32.toNatClampNeg a0) + Int32.toNatClampNeg f0) = fF (17 * (Int32.toNatClampNeg b0) + Int32.toNatClampNeg f0))) (fun _ _ => True) (va_A [] sz)) 0 0 (va_A [] sz) := by
  refine Met.ofW (cc := cX3_isChanged) (maxL := 6) (ret := (some .boolean)) (by decide) rfl ?_
  intro p e s m args below meth c s₁ B hml hv
  obtain ⟨rfl, hsz, hP, hK, hD0, hst⟩ := hv
  have hx := B.exec
  have hb := B.bytes
  have hr := B.returns
  have hts := atoms_spec (ws := wsX3_isChanged) B.pre
  have hown : s.vm.findClass RX3 = some m.cls := findClass_of_methodNamed B.named
  have hlocks := B.notSynchronized
  have iX3_ := in_v_X3_isChanged_X3
  subst hsz
  have hD := hD0.self (sz := s.heap.size)
  generalize hAe : va_A [] s.heap.size = A at hD hst ⊢
  have hA : ∀ q : Nat, s.heap.size ≤ q → A q := fun q h => by rw [← hAe]; exact Or.inr h
  have hS : va_S A s.heap s.heap [] := va_S.rf
  have hl := lv_entry ([.ref g0, .int a0, .int b0, .int f0]) (n := 6) (Nat.le_of_ble_eq_true rfl)
  rw [lg_entry_eq]
  generalize (lg_sl ([.ref g0, .int a0, .int b0, .int f0]) ++ List.replicate (6 - (lg_sl ([.ref g0, .int a0, .int b0, .int f0])).length) Slot.unset).toArray = ls at hl ⊢
  have hl : lv_has ls 6 [(0, .ref g0), (1, .int a0), (2, .int b0), (3, .int f0)] := hl
  have k0_ : Int32.toInt 0 = 0 := by decide
  have k1_ : Int32.toInt 1 = 1 := by decide
  have k9_ : Int32.toInt 9 = 9 := by decide
  refine W_nameQ (fun Q0 eQ => ?_)
  (refine hPI.a10E hg0 ?_; intro s1_1 s2_1 s3_1 s4_1 s5_1 s6_1 s7_1 pa_1 lm_1 s8_1 s9_1 s10_1 fm_1 s11_1 nm_1 s12_1 s13_1 s14_1 rm_1 s15_1 s16_1 s17_1 s18_1 e_1 fs1_1 fs2_1 fs3_1 fs4_1 fs5_1 fs6_1 fs7_1 flm_1 fs8_1 fs9_1 fs10_1 ffm_1 fs11_1 fnm_1 fs12_1 fs13_1 fs14_1 frm_1 fs15_1 fs16_1 fs17_1 fs18_1)
  obtain ⟨k_1, hk_1⟩ := va_plg hg0.1 e_1
  have eg11 := hRV.1.1 s1_1 fs1_1
  have fg11 := (hPI.a11 fs1_1).of eg11
  have eg12 := hRV.1.2.1 s2_1 fs2_1
  have fg12 := (hPI.a12 fs2_1).of eg12
  have eg13 := hRV.1.2.2 s3_1 fs3_1
  have fg13 := (hPI.a13 fs3_1).of eg13
  have eg14 := hRV.2.1.1 s4_1 fs4_1
  have fg14 := (hPI.a14 fs4_1).of eg14
  have eg15 := hRV.2.1.2 s5_1 fs5_1
  have fg15 := (hPI.a15 fs5_1).of eg15
  have eg18 := hRV.2.2.1.1 s8_1 fs8_1
  have fg18 := (hPI.a18 fs8_1).of eg18
  have eg19 := hRV.2.2.1.2.1 s9_1 fs9_1
  have fg19 := (hPI.a19 fs9_1).of eg19
  have eg20 := hRV.2.2.1.2.2 s10_1 fs10_1
  have fg20 := (hPI.a20 fs10_1).of eg20
  obtain rfl : lm_1 = lm := (show cI (f g0) 8 = _ from by rw [e_1]; rfl).symm.trans hRV.2.2.2.1
  obtain rfl : pa_1 = pa := (show cI (f g0) 7 = _ from by rw [e_1]; rfl).symm.trans hRV.2.2.2.2
  refine lv_iload_n hx hb dX3_isChanged_0 rfl (lv_at hl 3 rfl) ?_
  refine lv_bipush (v := 9) hx hb dX3_isChanged_1 (by decide) ?_
  refine lv_icmp_eq (tgt := 38) hx hb dX3_isChanged_3 (by decide) (fun c_2 => ?_) (fun c_2 => ?_)
  · have c_2 := congrArg Int32.toInt c_2
    refine lv_aload_n hx hb dX3_isChanged_38 rfl (lv_at hl 0 rfl) ?_
    obtain ⟨k_3, hk_3⟩ := va_plg hg0.1 e_1
    refine va_get (D := (dC, dI)) (ci := 3) (v := .ref s4_1) (C := RX3) (T := TX3) (N := 23) hx hb hts iX3_ hown hK hP k_3 hk_3 rfl 3 (by decide) (hts (.fieldLink RX3 21 "FieldLeavesModel" "rowSize" "[I") (by decide +kernel)) (fun _ h9 => h9) rfl dX3_isChanged_39 ?_
    refine lv_iload_n hx hb dX3_isChanged_42 rfl (lv_at hl 1 rfl) ?_
    obtain ⟨k_4, hk_4⟩ := va_plg fs4_1.1 eg14
    have h_4 : vp_in a0 6400 := (vp_in_iff.mpr (by constructor <;> omega))
    refine va_iald hx hb hK hP k_4 0 hk_4 rfl h_4 dX3_isChanged_43 ?_
    refine lv_topi (fun z_4 ez_4 => ?_)
    have fz_4 := fg14 _ (vp_lt h_4)
    rw [← ez_4] at fz_4
    have hdez_4 := congrArg Int32.toInt ez_4
    refine lv_aload_n hx hb dX3_isChanged_44 rfl (lv_at hl 0 rfl) ?_
    obtain ⟨k_5, hk_5⟩ := va_plg hg0.1 e_1
    refine va_get (D := (dC, dI)) (ci := 3) (v := .ref s4_1) (C := RX3) (T := TX3) (N := 23) hx hb hts iX3_ hown hK hP k_5 hk_5 rfl 3 (by decide) (hts (.fieldLink RX3 21 "FieldLeavesModel" "rowSize" "[I") (by decide +kernel)) (fun _ h9 => h9) rfl dX3_isChanged_45 ?_
    refine lv_iload_n hx hb dX3_isChanged_48 rfl (lv_at hl 2 rfl) ?_
    obtain ⟨k_6, hk_6⟩ := va_plg fs4_1.1 eg14
    have h_6 : vp_in b0 6400 := (vp_in_iff.mpr (by constructor <;> omega))
    refine va_iald hx hb hK hP k_6 0 hk_6 rfl h_6 dX3_isChanged_49 ?_
    refine lv_topi (fun z_6 ez_6 => ?_)
    have fz_6 := fg14 _ (vp_lt h_6)
    rw [← ez_6] at fz_6
    have hdez_6 := congrArg Int32.toInt ez_6
    refine lv_icmp_eq (tgt := 57) hx hb dX3_isChanged_50 (by decide) (fun c_7 => ?_) (fun c_7 => ?_)
    · have c_7 := congrArg Int32.toInt c_7
      refine lv_iconst (v := 0) hx hb dX3_isChanged_57 (by decide) ?_
      refine lv_istore (lv' := [(4, .int 0), (0, .ref g0), (1, .int a0), (2, .int b0), (3, .int f0)]) hx hb dX3_isChanged_58 hl (by decide) rfl (fun ls hl => ?_)
      refine lv_iconst (v := 0) hx hb dX3_isChanged_60 (by decide) ?_
      refine lv_istore (lv' := [(5, .int 0), (4, .int 0), (0, .ref g0), (1, .int a0), (2, .int b0), (3, .int f0)]) hx hb dX3_isChanged_61 hl (by decide) rfl (fun ls hl => ?_)
      have loop_63 : ∀ (n : Nat) (i5 : Int32) (b4 : Int32)  (H : Heap) (locs : List Loc) (ls : Array Slot), r01 b4 → ((0 ≤ i5.toInt ∧ i5.toInt ≤ 20) ∧ (b4 = 1 → ¬ ((fR (Int32.toNatClampNeg a0)).toInt = (fR (Int32.toNatClampNeg b0)).toInt ∧ ∀ i : Nat, (i : Int) < (fR (Int32.toNatClampNeg a0)).toInt → fW (20 * (Int32.toNatClampNeg a0) + i) = fW (20 * (Int32.toNatClampNeg b0) + i))) ∧ (b4 = 0 → (fR (Int32.toNatClampNeg a0)).toInt = (fR (Int32.toNatClampNeg b0)).toInt ∧ ∀ i : Nat, (i : Int) < i5.toInt → fW (20 * (Int32.toNatClampNeg a0) + i) = fW (20 * (Int32.toNatClampNeg b0) + i))) → (20 - i5.toInt).toNat < n → va_P (dC, dI) vwCl (va_pl L f) H → va_S A s.heap H locs → lv_has ls 6 [(5, .int i5), (4, .int b4), (0, .ref g0), (1, .int a0), (2, .int b0), (3, .int f0)] → W p l e (headSpec wsX3_isChanged ({ frames := 0, cells := 0, slots := 0, locals := 0 } : Room)).room s m (([.ref g0, .int a0, .int b0, .int f0] : List Value).toArray) below meth c H locs 0 0 Q0 (F0 m 63 ls []) := by
        intro n
        induction n with
        | zero => intro i5 b4 H locs ls _ _ h9; exact absurd h9 (Nat.not_lt_zero _)
        | succ n ih_63 =>
          intro i5 b4 H locs ls fb4 hI hM hP hS hl
          rcases fb4 with rfl | rfl
          · have hl : lv_has ls 6 [(5, .int i5), (4, .int 1), (0, .ref g0), (1, .int a0), (2, .int b0), (3, .int f0)] := hl
            refine lv_iload hx hb dX3_isChanged_63 (lv_at hl 0 rfl) ?_
            refine lv_aload_n hx hb dX3_isChanged_65 rfl (lv_at hl 2 rfl) ?_
            obtain ⟨k_8, hk_8⟩ := va_plg hg0.1 e_1
            refine va_get (D := (dC, dI)) (ci := 3) (v := .ref s4_1) (C := RX3) (T := TX3) (N := 23) hx hb hts iX3_ hown hK hP k_8 hk_8 rfl 3 (by decide) (hts (.fieldLink RX3 21 "FieldLeavesModel" "rowSize" "[I") (by decide +kernel)) (fun _ h9 => h9) rfl dX3_isChanged_66 ?_
            refine lv_iload_n hx hb dX3_isChanged_69 rfl (lv_at hl 3 rfl) ?_
            obtain ⟨k_9, hk_9⟩ := va_plg fs4_1.1 eg14
            have h_9 : vp_in a0 6400 := (vp_in_iff.mpr (by constructor <;> omega))
            refine va_iald hx hb hK hP k_9 0 hk_9 rfl h_9 dX3_isChanged_70 ?_
            refine lv_topi (fun z_9 ez_9 => ?_)
            obtain rfl : z_4 = z_9 := ez_4.trans ez_9.symm
            refine lv_icmp_ge (tgt := 119) hx hb dX3_isChanged_71 (by decide) (fun c_10 => ?_) (fun c_10 => ?_)
            · have c_10 := Int32.le_iff_toInt_le.mp c_10
              refine lv_iload hx hb dX3_isChanged_119 (lv_at hl 1 rfl) ?_
              subst eQ
              exact W.zret (v := 1) hx hb hr rfl (fun t ht hW => ⟨⟨1, (), rfl, Or.inl ⟨rfl, (by have h7 := clamp_int (i := f0) (by omega); rw [if_pos (by omega)]; exact hI.2.1 rfl)⟩, trivial⟩, hS.F ht⟩) hS.2.2 dX3_isChanged_121
            · have c_10 := mt Int32.le_iff_toInt_le.mpr c_10
              refine lv_iload hx hb dX3_isChanged_74 (lv_at hl 1 rfl) ?_
              refine lv_if_ne (tgt := 119) hx hb dX3_isChanged_76 (by decide) (fun _ => ?_) (fun c9 => absurd c9 (by decide))
              refine lv_iload hx hb dX3_isChanged_119 (lv_at hl 1 rfl) ?_
              subst eQ
              exact W.zret (v := 1) hx hb hr rfl (fun t ht hW => ⟨⟨1, (), rfl, Or.inl ⟨rfl, (by have h7 := clamp_int (i := f0) (by omega); rw [if_pos (by omega)]; exact hI.2.1 rfl)⟩, trivial⟩, hS.F ht⟩) hS.2.2 dX3_isChanged_121
          · have hl : lv_has ls 6 [(5, .int i5), (4, .int 0), (0, .ref g0), (1, .int a0), (2, .int b0), (3, .int f0)] := hl
            refine lv_iload hx hb dX3_isChanged_63 (lv_at hl 0 rfl) ?_
            refine lv_aload_n hx hb dX3_isChanged_65 rfl (lv_at hl 2 rfl) ?_
            obtain ⟨k_11, hk_11⟩ := va_plg hg0.1 e_1
            refine va_get (D := (dC, dI)) (ci := 3) (v := .ref s4_1) (C := RX3) (T := TX3) (N := 23) hx hb hts iX3_ hown hK hP k_11 hk_11 rfl 3 (by decide) (hts (.fieldLink RX3 21 "FieldLeavesModel" "rowSize" "[I") (by decide +kernel)) (fun _ h9 => h9) rfl dX3_isChanged_66 ?_
            refine lv_iload_n hx hb dX3_isChanged_69 rfl (lv_at hl 3 rfl) ?_
            obtain ⟨k_12, hk_12⟩ := va_plg fs4_1.1 eg14
            have h_12 : vp_in a0 6400 := (vp_in_iff.mpr (by constructor <;> omega))
            refine va_iald hx hb hK hP k_12 0 hk_12 rfl h_12 dX3_isChanged_70 ?_
            refine lv_topi (fun z_12 ez_12 => ?_)
            obtain rfl : z_4 = z_12 := ez_4.trans ez_12.symm
            refine lv_icmp_ge (tgt := 119) hx hb dX3_isChanged_71 (by decide) (fun c_13 => ?_) (fun c_13 => ?_)
            · have c_13 := Int32.le_iff_toInt_le.mp c_13
              refine lv_iload hx hb dX3_isChanged_119 (lv_at hl 1 rfl) ?_
              subst eQ
              exact W.zret (v := 0) hx hb hr rfl (fun t ht hW => ⟨⟨0, (), rfl, Or.inr ⟨rfl, (by have h7 := clamp_int (i := f0) (by omega); rw [if_pos (by omega)]; exact fun h9 => h9 ⟨(hI.2.2 rfl).1, fun i hi => (hI.2.2 rfl).2 i (by rw [← ez_4] at hi; omega)⟩)⟩, trivial⟩, hS.F ht⟩) hS.2.2 dX3_isChanged_121
            · have c_13 := mt Int32.le_iff_toInt_le.mpr c_13
              refine lv_iload hx hb dX3_isChanged_74 (lv_at hl 1 rfl) ?_
              refine lv_if_ne (tgt := 119) hx hb dX3_isChanged_76 (by decide) (fun c9 => absurd c9 (by decide)) (fun _ => ?_)
              refine lv_aload_n hx hb dX3_isChanged_79 rfl (lv_at hl 2 rfl) ?_
              obtain ⟨k_14, hk_14⟩ := va_plg hg0.1 e_1
              refine va_get (D := (dC, dI)) (ci := 3) (v := .ref s5_1) (C := RX3) (T := TX3) (N := 23) hx hb hts iX3_ hown hK hP k_14 hk_14 rfl 4 (by decide) (hts (.fieldLink RX3 25 "FieldLeavesModel" "rows" "[I") (by decide +kernel)) (fun _ h9 => h9) rfl dX3_isChanged_80 ?_
              refine lv_bipush (v := 20) hx hb dX3_isChanged_83 (by decide) ?_
              refine lv_iload_n hx hb dX3_isChanged_85 rfl (lv_at hl 3 rfl) ?_
              refine lv_imul hx hb dX3_isChanged_86 ?_
              refine lv_topi (fun z_15 ez_15 => ?_)
              have kz_15 := mul20 ez_15 (by omega) (by omega)
              refine lv_iload hx hb dX3_isChanged_87 (lv_at hl 0 rfl) ?_
              refine lv_iadd hx hb dX3_isChanged_89 ?_
              refine lv_topi (fun z_16 ez_16 => ?_)
              have kz_16 := add_toInt ez_16 (by omega) (by omega)
              obtain ⟨k_17, hk_17⟩ := va_plg fs5_1.1 eg15
              have h_17 : vp_in z_16 128000 := (vp_in_iff.mpr (by constructor <;> omega))
              refine va_iald hx hb hK hP k_17 0 hk_17 rfl h_17 dX3_isChanged_90 ?_
              refine lv_topi (fun z_17 ez_17 => ?_)
              have er_18 := ez_17
              rw [idx20 (o := a0) (f := i5) (w := z_16) (by omega) (by omega) (by omega)] at er_18
              have hder_18 := congrArg Int32.toInt er_18
              refine lv_aload_n hx hb dX3_isChanged_91 rfl (lv_at hl 2 rfl) ?_
              obtain ⟨k_19, hk_19⟩ := va_plg hg0.1 e_1
              refine va_get (D := (dC, dI)) (ci := 3) (v := .ref s5_1) (C := RX3) (T := TX3) (N := 23) hx hb hts iX3_ hown hK hP k_19 hk_19 rfl 4 (by decide) (hts (.fieldLink RX3 25 "FieldLeavesModel" "rows" "[I") (by decide +kernel)) (fun _ h9 => h9) rfl dX3_isChanged_92 ?_
              refine lv_bipush (v := 20) hx hb dX3_isChanged_95 (by decide) ?_
              refine lv_iload_n hx hb dX3_isChanged_97 rfl (lv_at hl 4 rfl) ?_
              refine lv_imul hx hb dX3_isChanged_98 ?_
              refine lv_topi (fun z_20 ez_20 => ?_)
              have kz_20 := mul20 ez_20 (by omega) (by omega)
              refine lv_iload hx hb dX3_isChanged_99 (lv_at hl 0 rfl) ?_
              refine lv_iadd hx hb dX3_isChanged_101 ?_
              refine lv_topi (fun z_21 ez_21 => ?_)
              have kz_21 := add_toInt ez_21 (by omega) (by omega)
              obtain ⟨k_22, hk_22⟩ := va_plg fs5_1.1 eg15
              have h_22 : vp_in z_21 128000 := (vp_in_iff.mpr (by constructor <;> omega))
              refine va_iald hx hb hK hP k_22 0 hk_22 rfl h_22 dX3_isChanged_102 ?_
              refine lv_topi (fun z_22 ez_22 => ?_)
              have er_23 := ez_22
              rw [idx20 (o := b0) (f := i5) (w := z_21) (by omega) (by omega) (by omega)] at er_23
              have hder_23 := congrArg Int32.toInt er_23
              refine lv_icmp_eq (tgt := 110) hx hb dX3_isChanged_103 (by decide) (fun c_24 => ?_) (fun c_24 => ?_)
              · have c_24 := congrArg Int32.toInt c_24
                refine lv_iconst (v := 0) hx hb dX3_isChanged_110 (by decide) ?_
                refine lv_istore (lv' := [(4, .int 0), (5, .int i5), (0, .ref g0), (1, .int a0), (2, .int b0), (3, .int f0)]) hx hb dX3_isChanged_111 hl (by decide) rfl (fun ls hl => ?_)
                obtain ⟨i_25, ei_25⟩ : ∃ y : Int32, y = i5 + 1 := ⟨_, rfl⟩
                refine lv_iinc (v := i_25) (lv' := [(5, .int i_25), (4, .int 0), (0, .ref g0), (1, .int a0), (2, .int b0), (3, .int f0)]) hx hb dX3_isChanged_113 hl (k := 1) rfl (by rw [ei_25]; rfl) (by decide) rfl (fun ls hl => ?_)
                have ki_25 := inc_toInt ei_25 (by omega)
                refine lv_goto (tgt := 63) hx hb dX3_isChanged_116 (by decide) ?_
                exact ih_63 i_25 0 _ _ _ (Or.inr rfl) ⟨by omega, fun h9 => absurd h9 (by decide), fun _ => ⟨(hI.2.2 rfl).1, fun i hi => by have h7 := clamp_int (i := i5) (by omega); exact dite (i = Int32.toNatClampNeg i5) (fun h8 => by rw [h8, ← er_18, ← er_23]; exact Int32.toInt_inj.mp (by omega)) (fun h8 => (hI.2.2 rfl).2 i (by omega))⟩⟩ (by omega) hP hS (lv_sub hl [0, 1, 2, 3, 4, 5] rfl)
              · have c_24 := mt Int32.toInt_inj.mp c_24
                refine lv_iconst (v := 1) hx hb dX3_isChanged_106 (by decide) ?_
                refine lv_goto (tgt := 111) hx hb dX3_isChanged_107 (by decide) ?_
                refine lv_istore (lv' := [(4, .int 1), (5, .int i5), (0, .ref g0), (1, .int a0), (2, .int b0), (3, .int f0)]) hx hb dX3_isChanged_111 hl (by decide) rfl (fun ls hl => ?_)
                obtain ⟨i_26, ei_26⟩ : ∃ y : Int32, y = i5 + 1 := ⟨_, rfl⟩
                refine lv_iinc (v := i_26) (lv' := [(5, .int i_26), (4, .int 1), (0, .ref g0), (1, .int a0), (2, .int b0), (3, .int f0)]) hx hb dX3_isChanged_113 hl (k := 1) rfl (by rw [ei_26]; rfl) (by decide) rfl (fun ls hl => ?_)
                have ki_26 := inc_toInt ei_26 (by omega)
                refine lv_goto (tgt := 63) hx hb dX3_isChanged_116 (by decide) ?_
                exact ih_63 i_26 1 _ _ _ (Or.inl rfl) ⟨by omega, (fun _ h9 => by have h7 := clamp_int (i := i5) (by omega); have h8 := h9.2 (Int32.toNatClampNeg i5) (by rw [← ez_4]; omega); rw [← er_18, ← er_23] at h8; exact absurd (congrArg Int32.toInt h8) (by omega)), fun h9 => absurd h9 (by decide)⟩ (by omega) hP hS (lv_sub hl [0, 1, 2, 3, 4, 5] rfl)
      exact loop_63 21 0 0 _ _ _ (Or.inr rfl) ⟨by omega, fun h9 => absurd h9 (by decide), fun _ => ⟨by rw [← ez_4, ← ez_6]; omega, fun i hi => absurd hi (by omega)⟩⟩ (by omega) hP hS hl
    · have c_7 := mt Int32.toInt_inj.mp c_7
      refine lv_iconst (v := 1) hx hb dX3_isChanged_53 (by decide) ?_
      refine lv_goto (tgt := 58) hx hb dX3_isChanged_54 (by decide) ?_
      refine lv_istore (lv' := [(4, .int 1), (0, .ref g0), (1, .int a0), (2, .int b0), (3, .int f0)]) hx hb dX3_isChanged_58 hl (by decide) rfl (fun ls hl => ?_)
      refine lv_iconst (v := 0) hx hb dX3_isChanged_60 (by decide) ?_
      refine lv_istore (lv' := [(5, .int 0), (4, .int 1), (0, .ref g0), (1, .int a0), (2, .int b0), (3, .int f0)]) hx hb dX3_isChanged_61 hl (by decide) rfl (fun ls hl => ?_)
      have loop_63 : ∀ (n : Nat) (i5 : Int32) (b4 : Int32)  (H : Heap) (locs : List Loc) (ls : Array Slot), r01 b4 → ((0 ≤ i5.toInt ∧ i5.toInt ≤ 20) ∧ (b4 = 1 → ¬ ((fR (Int32.toNatClampNeg a0)).toInt = (fR (Int32.toNatClampNeg b0)).toInt ∧ ∀ i : Nat, (i : Int) < (fR (Int32.toNatClampNeg a0)).toInt → fW (20 * (Int32.toNatClampNeg a0) + i) = fW (20 * (Int32.toNatClampNeg b0) + i))) ∧ (b4 = 0 → (fR (Int32.toNatClampNeg a0)).toInt = (fR (Int32.toNatClampNeg b0)).toInt ∧ ∀ i : Nat, (i : Int) < i5.toInt → fW (20 * (Int32.toNatClampNeg a0) + i) = fW (20 * (Int32.toNatClampNeg b0) + i))) → (20 - i5.toInt).toNat < n → va_P (dC, dI) vwCl (va_pl L f) H → va_S A s.heap H locs → lv_has ls 6 [(5, .int i5), (4, .int b4), (0, .ref g0), (1, .int a0), (2, .int b0), (3, .int f0)] → W p l e (headSpec wsX3_isChanged ({ frames := 0, cells := 0, slots := 0, locals := 0 } : Room)).room s m (([.ref g0, .int a0, .int b0, .int f0] : List Value).toArray) below meth c H locs 0 0 Q0 (F0 m 63 ls []) := by
        intro n
        induction n with
        | zero => intro i5 b4 H locs ls _ _ h9; exact absurd h9 (Nat.not_lt_zero _)
        | succ n ih_63 =>
          intro i5 b4 H locs ls fb4 hI hM hP hS hl
          rcases fb4 with rfl | rfl
          · have hl : lv_has ls 6 [(5, .int i5), (4, .int 1), (0, .ref g0), (1, .int a0), (2, .int b0), (3, .int f0)] := hl
            refine lv_iload hx hb dX3_isChanged_63 (lv_at hl 0 rfl) ?_
            refine lv_aload_n hx hb dX3_isChanged_65 rfl (lv_at hl 2 rfl) ?_
            obtain ⟨k_27, hk_27⟩ := va_plg hg0.1 e_1
            refine va_get (D := (dC, dI)) (ci := 3) (v := .ref s4_1) (C := RX3) (T := TX3) (N := 23) hx hb hts iX3_ hown hK hP k_27 hk_27 rfl 3 (by decide) (hts (.fieldLink RX3 21 "FieldLeavesModel" "rowSize" "[I") (by decide +kernel)) (fun _ h9 => h9) rfl dX3_isChanged_66 ?_
            refine lv_iload_n hx hb dX3_isChanged_69 rfl (lv_at hl 3 rfl) ?_
            obtain ⟨k_28, hk_28⟩ := va_plg fs4_1.1 eg14
            have h_28 : vp_in a0 6400 := (vp_in_iff.mpr (by constructor <;> omega))
            refine va_iald hx hb hK hP k_28 0 hk_28 rfl h_28 dX3_isChanged_70 ?_
            refine lv_topi (fun z_28 ez_28 => ?_)
            obtain rfl : z_4 = z_28 := ez_4.trans ez_28.symm
            refine lv_icmp_ge (tgt := 119) hx hb dX3_isChanged_71 (by decide) (fun c_29 => ?_) (fun c_29 => ?_)
            · have c_29 := Int32.le_iff_toInt_le.mp c_29
              refine lv_iload hx hb dX3_isChanged_119 (lv_at hl 1 rfl) ?_
              subst eQ
              exact W.zret (v := 1) hx hb hr rfl (fun t ht hW => ⟨⟨1, (), rfl, Or.inl ⟨rfl, (by have h7 := clamp_int (i := f0) (by omega); rw [if_pos (by omega)]; exact hI.2.1 rfl)⟩, trivial⟩, hS.F ht⟩) hS.2.2 dX3_isChanged_121
            · have c_29 := mt Int32.le_iff_toInt_le.mpr c_29
              refine lv_iload hx hb dX3_isChanged_74 (lv_at hl 1 rfl) ?_
              refine lv_if_ne (tgt := 119) hx hb dX3_isChanged_76 (by decide) (fun _ => ?_) (fun c9 => absurd c9 (by decide))
              refine lv_iload hx hb dX3_isChanged_119 (lv_at hl 1 rfl) ?_
              subst eQ
              exact W.zret (v := 1) hx hb hr rfl (fun t ht hW => ⟨⟨1, (), rfl, Or.inl ⟨rfl, (by have h7 := clamp_int (i := f0) (by omega); rw [if_pos (by omega)]; exact hI.2.1 rfl)⟩, trivial⟩, hS.F ht⟩) hS.2.2 dX3_isChanged_121
          · have hl : lv_has ls 6 [(5, .int i5), (4, .int 0), (0, .ref g0), (1, .int a0), (2, .int b0), (3, .int f0)] := hl
            refine lv_iload hx hb dX3_isChanged_63 (lv_at hl 0 rfl) ?_
            refine lv_aload_n hx hb dX3_isChanged_65 rfl (lv_at hl 2 rfl) ?_
            obtain ⟨k_30, hk_30⟩ := va_plg hg0.1 e_1
            refine va_get (D := (dC, dI)) (ci := 3) (v := .ref s4_1) (C := RX3) (T := TX3) (N := 23) hx hb hts iX3_ hown hK hP k_30 hk_30 rfl 3 (by decide) (hts (.fieldLink RX3 21 "FieldLeavesModel" "rowSize" "[I") (by decide +kernel)) (fun _ h9 => h9) rfl dX3_isChanged_66 ?_
            refine lv_iload_n hx hb dX3_isChanged_69 rfl (lv_at hl 3 rfl) ?_
            obtain ⟨k_31, hk_31⟩ := va_plg fs4_1.1 eg14
            have h_31 : vp_in a0 6400 := (vp_in_iff.mpr (by constructor <;> omega))
            refine va_iald hx hb hK hP k_31 0 hk_31 rfl h_31 dX3_isChanged_70 ?_
            refine lv_topi (fun z_31 ez_31 => ?_)
            obtain rfl : z_4 = z_31 := ez_4.trans ez_31.symm
            refine lv_icmp_ge (tgt := 119) hx hb dX3_isChanged_71 (by decide) (fun c_32 => ?_) (fun c_32 => ?_)
            · have c_32 := Int32.le_iff_toInt_le.mp c_32
              refine lv_iload hx hb dX3_isChanged_119 (lv_at hl 1 rfl) ?_
              subst eQ
              exact W.zret (v := 0) hx hb hr rfl (fun t ht hW => ⟨⟨0, (), rfl, Or.inr ⟨rfl, (by have h7 := clamp_int (i := f0) (by omega); rw [if_pos (by omega)]; exact fun h9 => h9 ⟨(hI.2.2 rfl).1, fun i hi => (hI.2.2 rfl).2 i (by rw [← ez_4] at hi; omega)⟩)⟩, trivial⟩, hS.F ht⟩) hS.2.2 dX3_isChanged_121
            · have c_32 := mt Int32.le_iff_toInt_le.mpr c_32
              refine lv_iload hx hb dX3_isChanged_74 (lv_at hl 1 rfl) ?_
              refine lv_if_ne (tgt := 119) hx hb dX3_isChanged_76 (by decide) (fun c9 => absurd c9 (by decide)) (fun _ => ?_)
              refine lv_aload_n hx hb dX3_isChanged_79 rfl (lv_at hl 2 rfl) ?_
              obtain ⟨k_33, hk_33⟩ := va_plg hg0.1 e_1
              refine va_get (D := (dC, dI)) (ci := 3) (v := .ref s5_1) (C := RX3) (T := TX3) (N := 23) hx hb hts iX3_ hown hK hP k_33 hk_33 rfl 4 (by decide) (hts (.fieldLink RX3 25 "FieldLeavesModel" "rows" "[I") (by decide +kernel)) (fun _ h9 => h9) rfl dX3_isChanged_80 ?_
              refine lv_bipush (v := 20) hx hb dX3_isChanged_83 (by decide) ?_
              refine lv_iload_n hx hb dX3_isChanged_85 rfl (lv_at hl 3 rfl) ?_
              refine lv_imul hx hb dX3_isChanged_86 ?_
              refine lv_topi (fun z_34 ez_34 => ?_)
              have kz_34 := mul20 ez_34 (by omega) (by omega)
              refine lv_iload hx hb dX3_isChanged_87 (lv_at hl 0 rfl) ?_
              refine lv_iadd hx hb dX3_isChanged_89 ?_
              refine lv_topi (fun z_35 ez_35 => ?_)
              have kz_35 := add_toInt ez_35 (by omega) (by omega)
              obtain ⟨k_36, hk_36⟩ := va_plg fs5_1.1 eg15
              have h_36 : vp_in z_35 128000 := (vp_in_iff.mpr (by constructor <;> omega))
              refine va_iald hx hb hK hP k_36 0 hk_36 rfl h_36 dX3_isChanged_90 ?_
              refine lv_topi (fun z_36 ez_36 => ?_)
              have er_37 := ez_36
              rw [idx20 (o := a0) (f := i5) (w := z_35) (by omega) (by omega) (by omega)] at er_37
              have hder_37 := congrArg Int32.toInt er_37
              refine lv_aload_n hx hb dX3_isChanged_91 rfl (lv_at hl 2 rfl) ?_
              obtain ⟨k_38, hk_38⟩ := va_plg hg0.1 e_1
              refine va_get (D := (dC, dI)) (ci := 3) (v := .ref s5_1) (C := RX3) (T := TX3) (N := 23) hx hb hts iX3_ hown hK hP k_38 hk_38 rfl 4 (by decide) (hts (.fieldLink RX3 25 "FieldLeavesModel" "rows" "[I") (by decide +kernel)) (fun _ h9 => h9) rfl dX3_isChanged_92 ?_
              refine lv_bipush (v := 20) hx hb dX3_isChanged_95 (by decide) ?_
              refine lv_iload_n hx hb dX3_isChanged_97 rfl (lv_at hl 4 rfl) ?_
              refine lv_imul hx hb dX3_isChanged_98 ?_
              refine lv_topi (fun z_39 ez_39 => ?_)
              have kz_39 := mul20 ez_39 (by omega) (by omega)
              refine lv_iload hx hb dX3_isChanged_99 (lv_at hl 0 rfl) ?_
              refine lv_iadd hx hb dX3_isChanged_101 ?_
              refine lv_topi (fun z_40 ez_40 => ?_)
              have kz_40 := add_toInt ez_40 (by omega) (by omega)
              obtain ⟨k_41, hk_41⟩ := va_plg fs5_1.1 eg15
              have h_41 : vp_in z_40 128000 := (vp_in_iff.mpr (by constructor <;> omega))
              refine va_iald hx hb hK hP k_41 0 hk_41 rfl h_41 dX3_isChanged_102 ?_
              refine lv_topi (fun z_41 ez_41 => ?_)
              have er_42 := ez_41
              rw [idx20 (o := b0) (f := i5) (w := z_40) (by omega) (by omega) (by omega)] at er_42
              have hder_42 := congrArg Int32.toInt er_42
              refine lv_icmp_eq (tgt := 110) hx hb dX3_isChanged_103 (by decide) (fun c_43 => ?_) (fun c_43 => ?_)
              · have c_43 := congrArg Int32.toInt c_43
                refine lv_iconst (v := 0) hx hb dX3_isChanged_110 (by decide) ?_
                refine lv_istore (lv' := [(4, .int 0), (5, .int i5), (0, .ref g0), (1, .int a0), (2, .int b0), (3, .int f0)]) hx hb dX3_isChanged_111 hl (by decide) rfl (fun ls hl => ?_)
                obtain ⟨i_44, ei_44⟩ : ∃ y : Int32, y = i5 + 1 := ⟨_, rfl⟩
                refine lv_iinc (v := i_44) (lv' := [(5, .int i_44), (4, .int 0), (0, .ref g0), (1, .int a0), (2, .int b0), (3, .int f0)]) hx hb dX3_isChanged_113 hl (k := 1) rfl (by rw [ei_44]; rfl) (by decide) rfl (fun ls hl => ?_)
                have ki_44 := inc_toInt ei_44 (by omega)
                refine lv_goto (tgt := 63) hx hb dX3_isChanged_116 (by decide) ?_
                exact ih_63 i_44 0 _ _ _ (Or.inr rfl) ⟨by omega, fun h9 => absurd h9 (by decide), fun _ => ⟨(hI.2.2 rfl).1, fun i hi => by have h7 := clamp_int (i := i5) (by omega); exact dite (i = Int32.toNatClampNeg i5) (fun h8 => by rw [h8, ← er_37, ← er_42]; exact Int32.toInt_inj.mp (by omega)) (fun h8 => (hI.2.2 rfl).2 i (by omega))⟩⟩ (by omega) hP hS (lv_sub hl [0, 1, 2, 3, 4, 5] rfl)
              · have c_43 := mt Int32.toInt_inj.mp c_43
                refine lv_iconst (v := 1) hx hb dX3_isChanged_106 (by decide) ?_
                refine lv_goto (tgt := 111) hx hb dX3_isChanged_107 (by decide) ?_
                refine lv_istore (lv' := [(4, .int 1), (5, .int i5), (0, .ref g0), (1, .int a0), (2, .int b0), (3, .int f0)]) hx hb dX3_isChanged_111 hl (by decide) rfl (fun ls hl => ?_)
                obtain ⟨i_45, ei_45⟩ : ∃ y : Int32, y = i5 + 1 := ⟨_, rfl⟩
                refine lv_iinc (v := i_45) (lv' := [(5, .int i_45), (4, .int 1), (0, .ref g0), (1, .int a0), (2, .int b0), (3, .int f0)]) hx hb dX3_isChanged_113 hl (k := 1) rfl (by rw [ei_45]; rfl) (by decide) rfl (fun ls hl => ?_)
                have ki_45 := inc_toInt ei_45 (by omega)
                refine lv_goto (tgt := 63) hx hb dX3_isChanged_116 (by decide) ?_
                exact ih_63 i_45 1 _ _ _ (Or.inl rfl) ⟨by omega, (fun _ h9 => by have h7 := clamp_int (i := i5) (by omega); have h8 := h9.2 (Int32.toNatClampNeg i5) (by rw [← ez_4]; omega); rw [← er_37, ← er_42] at h8; exact absurd (congrArg Int32.toInt h8) (by omega)), fun h9 => absurd h9 (by decide)⟩ (by omega) hP hS (lv_sub hl [0, 1, 2, 3, 4, 5] rfl)
      exact loop_63 21 0 1 _ _ _ (Or.inl rfl) ⟨by omega, (fun _ h9 => by have h8 := h9.1; rw [← ez_4, ← ez_6] at h8; omega), fun h9 => absurd h9 (by decide)⟩ (by omega) hP hS hl
  · have c_2 := mt Int32.toInt_inj.mp c_2
    refine lv_aload_n hx hb dX3_isChanged_6 rfl (lv_at hl 0 rfl) ?_
    obtain ⟨k_46, hk_46⟩ := va_plg hg0.1 e_1
    refine va_get (D := (dC, dI)) (ci := 3) (v := .ref s3_1) (C := RX3) (T := TX3) (N := 23) hx hb hts iX3_ hown hK hP k_46 hk_46 rfl 2 (by decide) (hts (.fieldLink RX3 17 "FieldLeavesModel" "field" "[J") (by decide +kernel)) (fun _ h9 => h9) rfl dX3_isChanged_7 ?_
    refine lv_bipush (v := 17) hx hb dX3_isChanged_10 (by decide) ?_
    refine lv_iload_n hx hb dX3_isChanged_12 rfl (lv_at hl 1 rfl) ?_
    refine lv_imul hx hb dX3_isChanged_13 ?_
    refine lv_topi (fun z_47 ez_47 => ?_)
    have kz_47 := mul17 ez_47 (by omega) (by omega)
    refine lv_iload_n hx hb dX3_isChanged_14 rfl (lv_at hl 3 rfl) ?_
    refine lv_iadd hx hb dX3_isChanged_15 ?_
    refine lv_topi (fun z_48 ez_48 => ?_)
    have kz_48 := add_toInt ez_48 (by omega) (by omega)
    obtain ⟨k_49, hk_49⟩ := va_plg fs3_1.1 eg13
    have h_49 : vp_in z_48 108800 := (vp_in_iff.mpr (by constructor <;> omega))
    refine va_lald hx hb hK hP k_49 1 hk_49 rfl h_49 dX3_isChanged_16 ?_
    refine lv_topl (fun z_49 ez_49 => ?_)
    have er_50 := ez_49
    rw [idx_clamp (o := a0) (f := f0) (w := z_48) (by omega) (by omega) (by omega)] at er_50
    refine lv_aload_n hx hb dX3_isChanged_17 rfl (lv_at hl 0 rfl) ?_
    obtain ⟨k_51, hk_51⟩ := va_plg hg0.1 e_1
    refine va_get (D := (dC, dI)) (ci := 3) (v := .ref s3_1) (C := RX3) (T := TX3) (N := 23) hx hb hts iX3_ hown hK hP k_51 hk_51 rfl 2 (by decide) (hts (.fieldLink RX3 17 "FieldLeavesModel" "field" "[J") (by decide +kernel)) (fun _ h9 => h9) rfl dX3_isChanged_18 ?_
    refine lv_bipush (v := 17) hx hb dX3_isChanged_21 (by decide) ?_
    refine lv_iload_n hx hb dX3_isChanged_23 rfl (lv_at hl 2 rfl) ?_
    refine lv_imul hx hb dX3_isChanged_24 ?_
    refine lv_topi (fun z_52 ez_52 => ?_)
    have kz_52 := mul17 ez_52 (by omega) (by omega)
    refine lv_iload_n hx hb dX3_isChanged_25 rfl (lv_at hl 3 rfl) ?_
    refine lv_iadd hx hb dX3_isChanged_26 ?_
    refine lv_topi (fun z_53 ez_53 => ?_)
    have kz_53 := add_toInt ez_53 (by omega) (by omega)
    obtain ⟨k_54, hk_54⟩ := va_plg fs3_1.1 eg13
    have h_54 : vp_in z_53 108800 := (vp_in_iff.mpr (by constructor <;> omega))
    refine va_lald hx hb hK hP k_54 1 hk_54 rfl h_54 dX3_isChanged_27 ?_
    refine lv_topl (fun z_54 ez_54 => ?_)
    have er_55 := ez_54
    rw [idx_clamp (o := b0) (f := f0) (w := z_53) (by omega) (by omega) (by omega)] at er_55
    refine W.lcmp hx hb dX3_isChanged_28 ?_
    refine lv_if_eq (tgt := 36) hx hb dX3_isChanged_29 (by decide) (fun c_56 => ?_) (fun c_56 => ?_)
    · have c_56 := congrArg Int64.toInt ((lg_cmp_eq z_49 z_54).mp c_56)
      refine lv_iconst (v := 0) hx hb dX3_isChanged_36 (by decide) ?_
      subst eQ
      exact W.zret (v := 0) hx hb hr rfl (fun t ht hW => ⟨⟨0, (), rfl, Or.inr ⟨rfl, (by have h7 := clamp_int (i := f0) (by omega); rw [if_neg (by omega), ← er_50, ← er_55]; exact fun h9 => h9 (Int64.toInt_inj.mp (by omega)))⟩, trivial⟩, hS.F ht⟩) hS.2.2 dX3_isChanged_37
    · have c_56 := mt (fun h9 => (lg_cmp_eq z_49 z_54).mpr (Int64.toInt_inj.mp h9)) c_56
      refine lv_iconst (v := 1) hx hb dX3_isChanged_32 (by decide) ?_
      refine lv_goto (tgt := 37) hx hb dX3_isChanged_33 (by decide) ?_
      subst eQ
      exact W.zret (v := 1) hx hb hr rfl (fun t ht hW => ⟨⟨1, (), rfl, Or.inl ⟨rfl, (by have h7 := clamp_int (i := f0) (by omega); rw [if_neg (by omega), ← er_50, ← er_55]; exact mt (congrArg Int64.toInt) (by omega))⟩, trivial⟩, hS.F ht⟩) hS.2.2 dX3_isChanged_37
set_option maxRecDepth 20000 in
theorem in_v_X3_changed_X3 : ∀ w ∈ u_ws RX3 TX3 23, w ∈ wsX3_changed := by decide +kernel
set_option maxRecDepth 100000 in
set_option maxHeartbeats 4000000 in
theorem v_X3_changed (l : Launch) (dC : Nat → ClassId) (dI : Nat → Nat → Nat) (TT : Nat × Nat × Nat) (sz : Nat) (kI kJ kZ : ClassId) (K : Nat → Nat) (L : List Nat) (f : Nat → va_E) (hPI : PR kI kJ kZ K L f) (g0 : Nat) (hg0 : isr K L 10 g0) (p0 : Int32) (p1 : Int32) (p2 : Int32) (hU : UN K L) (fS fC : Nat → Int32) (fF : Nat → Int64) (fR fW lo ld : Nat → Int32) (lv : Nat → Int64) (lm pa : Int32) (hRV : RV kI kJ K L f g0 fS fC fF fR fW lo ld lv lm pa) : Met l yX3_changed wsX3_changed ({ frames := 2, cells := 0, slots := 0, locals := 45 } : Room) (va_Pc [.ref g0, .int p0, .int p1, .int p2] (pr dC dI (va_pl L f) [] [(kI, .int), (kJ, .long), (kZ, .boolean)] sz TT)) (va_Qi (fun (r : Int32) (u : Unit) => rs_chg fS fC fF fR fW p0 p1 p2 r) (fun _ _ => True) (va_A [] sz)) 0 0 (va_A [] sz) := by
  refine Met.ofW (cc := cX3_changed) (maxL := 8) (ret := (some .int)) (by decide) rfl ?_
  intro p e s m args below meth c s₁ B hml hv
  obtain ⟨rfl, hsz, hP, hK, hD0, hst⟩ := hv
  have hx := B.exec
  have hb := B.bytes
  have hr := B.returns
  have hts := atoms_spec (ws := wsX3_changed) B.pre
  have hown : s.vm.findClass RX3 = some m.cls := findClass_of_methodNamed B.named
  have hlocks := B.notSynchronized
  have iX3_ := in_v_X3_changed_X3
  subst hsz
  have hD := hD0.self (sz := s.heap.size)
  generalize hAe : va_A [] s.heap.size = A at hD hst ⊢
  have hA : ∀ q : Nat, s.heap.size ≤ q → A q := fun q h => by rw [← hAe]; exact Or.inr h
  have hS : va_S A s.heap s.heap [] := va_S.rf
  have hl := lv_entry ([.ref g0, .int p0, .int p1, .int p2]) (n := 8) (Nat.le_of_ble_eq_true rfl)
  rw [lg_entry_eq]
  generalize (lg_sl ([.ref g0, .int p0, .int p1, .int p2]) ++ List.replicate (8 - (lg_sl ([.ref g0, .int p0, .int p1, .int p2])).length) Slot.unset).toArray = ls at hl ⊢
  have hl : lv_has ls 8 [(0, .ref g0), (1, .int p0), (2, .int p1), (3, .int p2)] := hl
  have km14_ : Int32.toInt (-14) = -14 := by decide
  have km11_ : Int32.toInt (-11) = -11 := by decide
  have km4_ : Int32.toInt (-4) = -4 := by decide
  have km1_ : Int32.toInt (-1) = -1 := by decide
  have k0_ : Int32.toInt 0 = 0 := by decide
  have k17_ : Int32.toInt 17 = 17 := by decide
  have k0_ : Int32.toInt 0 = 0 := by decide
  have cl_0 : Int32.toNatClampNeg 0 = 0 := by decide
  refine W_nameQ (fun Q0 eQ => ?_)
  (refine hPI.a10E hg0 ?_; intro s1_1 s2_1 s3_1 s4_1 s5_1 s6_1 s7_1 pa_1 lm_1 s8_1 s9_1 s10_1 fm_1 s11_1 nm_1 s12_1 s13_1 s14_1 rm_1 s15_1 s16_1 s17_1 s18_1 e_1 fs1_1 fs2_1 fs3_1 fs4_1 fs5_1 fs6_1 fs7_1 flm_1 fs8_1 fs9_1 fs10_1 ffm_1 fs11_1 fnm_1 fs12_1 fs13_1 fs14_1 frm_1 fs15_1 fs16_1 fs17_1 fs18_1)
  obtain ⟨k_1, hk_1⟩ := va_plg hg0.1 e_1
  have eg11 := hRV.1.1 s1_1 fs1_1
  have fg11 := (hPI.a11 fs1_1).of eg11
  have eg12 := hRV.1.2.1 s2_1 fs2_1
  have fg12 := (hPI.a12 fs2_1).of eg12
  have eg13 := hRV.1.2.2 s3_1 fs3_1
  have fg13 := (hPI.a13 fs3_1).of eg13
  have eg14 := hRV.2.1.1 s4_1 fs4_1
  have fg14 := (hPI.a14 fs4_1).of eg14
  have eg15 := hRV.2.1.2 s5_1 fs5_1
  have fg15 := (hPI.a15 fs5_1).of eg15
  have eg18 := hRV.2.2.1.1 s8_1 fs8_1
  have fg18 := (hPI.a18 fs8_1).of eg18
  have eg19 := hRV.2.2.1.2.1 s9_1 fs9_1
  have fg19 := (hPI.a19 fs9_1).of eg19
  have eg20 := hRV.2.2.1.2.2 s10_1 fs10_1
  have fg20 := (hPI.a20 fs10_1).of eg20
  obtain rfl : lm_1 = lm := (show cI (f g0) 8 = _ from by rw [e_1]; rfl).symm.trans hRV.2.2.2.1
  obtain rfl : pa_1 = pa := (show cI (f g0) 7 = _ from by rw [e_1]; rfl).symm.trans hRV.2.2.2.2
  refine lv_iload_n hx hb dX3_changed_0 rfl (lv_at hl 1 rfl) ?_
  refine va_calli (va_runS (As := [.int p0]) (rest := []) ⟨hx, hb, hml, hown, hts⟩ (c_X3_isSlot l dC dI TT s.heap.size p0) (va_cwS 1 hts gX3_changed_X3_isSlot rfl rfl rfl (by decide +kernel) ⟨Nat.le_of_ble_eq_true rfl, Nat.le_of_ble_eq_true rfl⟩) (pr_S (ws := []) (wA := []) (tys := []) vp_nil (hK.sub [] rfl) vd_nil hst hS (ro_free hS hA)) rfl rfl hl.1 rfl (lv_room (Nat.le_of_ble_eq_true rfl)) dX3_changed_1 ⟨Nat.le_of_ble_eq_true rfl, Nat.le_of_ble_eq_true rfl⟩) hS (fun q _ h => (ro_free hS hA) q h) (ro_free hS hA) (fun r_2 u t H1 locs ht hvm hw hB hz1 hk1 hS => ?_)
  have hP := ro_keep hP hk1
  generalize H1 = H at hP hS ⊢
  rcases hw with ⟨rfl, hp_3⟩ | ⟨rfl, hp_3⟩
  · refine lv_if_eq (tgt := 18) hx hb dX3_changed_4 (by decide) (fun c9 => absurd c9 (by decide)) (fun _ => ?_)
    refine lv_iload_n hx hb dX3_changed_7 rfl (lv_at hl 2 rfl) ?_
    refine va_calli (va_runS (As := [.int p1]) (rest := []) ⟨hx, hb, hml, hown, hts⟩ (c_X3_isSlot l dC dI TT H.size p1) (va_cwS 1 hts gX3_changed_X3_isSlot rfl rfl rfl (by decide +kernel) ⟨Nat.le_of_ble_eq_true rfl, Nat.le_of_ble_eq_true rfl⟩) (pr_S (ws := []) (wA := []) (tys := []) vp_nil (hK.sub [] rfl) vd_nil hst hS (ro_free hS hA)) rfl rfl hl.1 rfl (lv_room (Nat.le_of_ble_eq_true rfl)) dX3_changed_8 ⟨Nat.le_of_ble_eq_true rfl, Nat.le_of_ble_eq_true rfl⟩) hS (fun q _ h => (ro_free hS hA) q h) (ro_free hS hA) (fun r_4 u t H1 locs ht hvm hw hB hz1 hk1 hS => ?_)
    have hP := ro_keep hP hk1
    generalize H1 = H at hP hS ⊢
    rcases hw with ⟨rfl, hp_5⟩ | ⟨rfl, hp_5⟩
    · refine lv_if_eq (tgt := 18) hx hb dX3_changed_11 (by decide) (fun c9 => absurd c9 (by decide)) (fun _ => ?_)
      refine lv_iload_n hx hb dX3_changed_14 rfl (lv_at hl 3 rfl) ?_
      refine lv_if_ge (tgt := 20) hx hb dX3_changed_15 (by decide) (fun c_6 => ?_) (fun c_6 => ?_)
      · have c_6 := Int32.le_iff_toInt_le.mp c_6
        refine lv_aload_n hx hb dX3_changed_20 rfl (lv_at hl 0 rfl) ?_
        obtain ⟨k_7, hk_7⟩ := va_plg hg0.1 e_1
        refine va_get (D := (dC, dI)) (ci := 3) (v := .ref s1_1) (C := RX3) (T := TX3) (N := 23) hx hb hts iX3_ hown hK hP k_7 hk_7 rfl 0 (by decide) (hts (.fieldLink RX3 7 "FieldLeavesModel" "slot" "[I") (by decide +kernel)) (fun _ h9 => h9) rfl dX3_changed_21 ?_
        refine lv_iload_n hx hb dX3_changed_24 rfl (lv_at hl 1 rfl) ?_
        obtain ⟨k_8, hk_8⟩ := va_plg fs1_1.1 eg11
        have h_8 : vp_in p0 12 := (vp_in_iff.mpr (by constructor <;> omega))
        refine va_iald hx hb hK hP k_8 0 hk_8 rfl h_8 dX3_changed_25 ?_
        refine lv_topi (fun z_8 ez_8 => ?_)
        have fz_8 := fg11 _ (vp_lt h_8)
        rw [← ez_8] at fz_8
        have hdez_8 := congrArg Int32.toInt ez_8
        refine lv_istore (lv' := [(4, .int z_8), (0, .ref g0), (1, .int p0), (2, .int p1), (3, .int p2)]) hx hb dX3_changed_26 hl (by decide) rfl (fun ls hl => ?_)
        refine lv_aload_n hx hb dX3_changed_28 rfl (lv_at hl 1 rfl) ?_
        obtain ⟨k_9, hk_9⟩ := va_plg hg0.1 e_1
        refine va_get (D := (dC, dI)) (ci := 3) (v := .ref s1_1) (C := RX3) (T := TX3) (N := 23) hx hb hts iX3_ hown hK hP k_9 hk_9 rfl 0 (by decide) (hts (.fieldLink RX3 7 "FieldLeavesModel" "slot" "[I") (by decide +kernel)) (fun _ h9 => h9) rfl dX3_changed_29 ?_
        refine lv_iload_n hx hb dX3_changed_32 rfl (lv_at hl 3 rfl) ?_
        obtain ⟨k_10, hk_10⟩ := va_plg fs1_1.1 eg11
        have h_10 : vp_in p1 12 := (vp_in_iff.mpr (by constructor <;> omega))
        refine va_iald hx hb hK hP k_10 0 hk_10 rfl h_10 dX3_changed_33 ?_
        refine lv_topi (fun z_10 ez_10 => ?_)
        have fz_10 := fg11 _ (vp_lt h_10)
        rw [← ez_10] at fz_10
        have hdez_10 := congrArg Int32.toInt ez_10
        refine lv_istore (lv' := [(5, .int z_10), (4, .int z_8), (0, .ref g0), (1, .int p0), (2, .int p1), (3, .int p2)]) hx hb dX3_changed_34 hl (by decide) rfl (fun ls hl => ?_)
        refine lv_iload hx hb dX3_changed_36 (lv_at hl 1 rfl) ?_
        refine lv_iconst (v := (-1)) hx hb dX3_changed_38 (by decide) ?_
        refine lv_icmp_eq (tgt := 48) hx hb dX3_changed_39 (by decide) (fun c_11 => ?_) (fun c_11 => ?_)
        · have c_11 := congrArg Int32.toInt c_11
          refine lv_bipush (v := (-11)) hx hb dX3_changed_48 (by decide) ?_
          subst eQ
          exact W.iret (v := (-11)) hx hb hr (fun t ht hW => ⟨⟨(-11), (), rfl, (show rs_chg fS fC fF fR fW p0 p1 p2 (-11) from by unfold rs_chg; rw [if_pos (by omega), ← ez_8, ← ez_10, if_pos (by omega)]), trivial⟩, hS.F ht⟩) hS.2.2 dX3_changed_50
        · have c_11 := mt Int32.toInt_inj.mp c_11
          refine lv_iload hx hb dX3_changed_42 (lv_at hl 0 rfl) ?_
          refine lv_iconst (v := (-1)) hx hb dX3_changed_44 (by decide) ?_
          refine lv_icmp_ne (tgt := 51) hx hb dX3_changed_45 (by decide) (fun c_12 => ?_) (fun c_12 => ?_)
          · have c_12 := mt Int32.toInt_inj.mp c_12
            refine lv_aload_n hx hb dX3_changed_51 rfl (lv_at hl 2 rfl) ?_
            obtain ⟨k_13, hk_13⟩ := va_plg hg0.1 e_1
            refine va_get (D := (dC, dI)) (ci := 3) (v := .ref s2_1) (C := RX3) (T := TX3) (N := 23) hx hb hts iX3_ hown hK hP k_13 hk_13 rfl 1 (by decide) (hts (.fieldLink RX3 13 "FieldLeavesModel" "classOf" "[I") (by decide +kernel)) (fun _ h9 => h9) rfl dX3_changed_52 ?_
            refine lv_iload hx hb dX3_changed_55 (lv_at hl 1 rfl) ?_
            obtain ⟨k_14, hk_14⟩ := va_plg fs2_1.1 eg12
            have h_14 : vp_in z_8 6400 := (vp_in_iff.mpr (by constructor <;> omega))
            refine va_iald hx hb hK hP k_14 0 hk_14 rfl h_14 dX3_changed_57 ?_
            refine lv_topi (fun z_14 ez_14 => ?_)
            have hdez_14 := congrArg Int32.toInt ez_14
            refine lv_aload_n hx hb dX3_changed_58 rfl (lv_at hl 2 rfl) ?_
            obtain ⟨k_15, hk_15⟩ := va_plg hg0.1 e_1
            refine va_get (D := (dC, dI)) (ci := 3) (v := .ref s2_1) (C := RX3) (T := TX3) (N := 23) hx hb hts iX3_ hown hK hP k_15 hk_15 rfl 1 (by decide) (hts (.fieldLink RX3 13 "FieldLeavesModel" "classOf" "[I") (by decide +kernel)) (fun _ h9 => h9) rfl dX3_changed_59 ?_
            refine lv_iload hx hb dX3_changed_62 (lv_at hl 0 rfl) ?_
            obtain ⟨k_16, hk_16⟩ := va_plg fs2_1.1 eg12
            have h_16 : vp_in z_10 6400 := (vp_in_iff.mpr (by constructor <;> omega))
            refine va_iald hx hb hK hP k_16 0 hk_16 rfl h_16 dX3_changed_64 ?_
            refine lv_topi (fun z_16 ez_16 => ?_)
            have hdez_16 := congrArg Int32.toInt ez_16
            refine lv_icmp_eq (tgt := 71) hx hb dX3_changed_65 (by decide) (fun c_17 => ?_) (fun c_17 => ?_)
            · have c_17 := congrArg Int32.toInt c_17
              refine lv_iload_n hx hb dX3_changed_71 rfl (lv_at hl 5 rfl) ?_
              refine lv_istore (lv' := [(6, .int p2), (5, .int z_10), (4, .int z_8), (0, .ref g0), (1, .int p0), (2, .int p1), (3, .int p2)]) hx hb dX3_changed_72 hl (by decide) rfl (fun ls hl => ?_)
              refine lv_iconst (v := 0) hx hb dX3_changed_74 (by decide) ?_
              refine lv_istore (lv' := [(7, .int 0), (6, .int p2), (5, .int z_10), (4, .int z_8), (0, .ref g0), (1, .int p0), (2, .int p1), (3, .int p2)]) hx hb dX3_changed_75 hl (by decide) rfl (fun ls hl => ?_)
              have loop_77 : ∀ (n : Nat) (i6 : Int32) (i7 : Int32)   (H : Heap) (locs : List Loc) (ls : Array Slot), ((0 ≤ i7.toInt ∧ i7.toInt ≤ 17 ∧ 0 ≤ i6.toInt) ∧ ∀ r, chP (dfr fC fF fR fW (Int32.toNatClampNeg z_8) (Int32.toNatClampNeg z_10)) (17 - i7.toInt).toNat (Int32.toNatClampNeg i7) i6.toInt r → chP (dfr fC fF fR fW (Int32.toNatClampNeg z_8) (Int32.toNatClampNeg z_10)) 17 0 p2.toInt r) → (17 - i7.toInt).toNat < n → va_P (dC, dI) vwCl (va_pl L f) H → va_S A s.heap H locs → lv_has ls 8 [(7, .int i7), (6, .int i6), (5, .int z_10), (4, .int z_8), (0, .ref g0), (1, .int p0), (2, .int p1), (3, .int p2)] → W p l e (headSpec wsX3_changed ({ frames := 2, cells := 0, slots := 0, locals := 45 } : Room)).room s m (([.ref g0, .int p0, .int p1, .int p2] : List Value).toArray) below meth c H locs 0 0 Q0 (F0 m 77 ls []) := by
                intro n
                induction n with
                | zero => intro i6 i7 H locs ls  _ h9; exact absurd h9 (Nat.not_lt_zero _)
                | succ n ih_77 =>
                  intro i6 i7 H locs ls  hI hM hP hS hl
                  refine lv_iload hx hb dX3_changed_77 (lv_at hl 0 rfl) ?_
                  refine lv_bipush (v := 17) hx hb dX3_changed_79 (by decide) ?_
                  refine lv_icmp_ge (tgt := 129) hx hb dX3_changed_81 (by decide) (fun c_18 => ?_) (fun c_18 => ?_)
                  · have c_18 := Int32.le_iff_toInt_le.mp c_18
                    refine lv_bipush (v := (-4)) hx hb dX3_changed_129 (by decide) ?_
                    subst eQ
                    exact W.iret (v := (-4)) hx hb hr (fun t ht hW => ⟨⟨(-4), (), rfl, (show rs_chg fS fC fF fR fW p0 p1 p2 (-4) from by unfold rs_chg; rw [if_pos (by omega), ← ez_8, ← ez_10, if_neg (by omega)]; rw [if_pos (by rw [← ez_14, ← ez_16]; omega)]; exact chP_end hI.2 (by omega)), trivial⟩, hS.F ht⟩) hS.2.2 dX3_changed_131
                  · have c_18 := mt Int32.le_iff_toInt_le.mpr c_18
                    refine lv_aload_n hx hb dX3_changed_84 rfl (lv_at hl 4 rfl) ?_
                    obtain ⟨k_19, hk_19⟩ := va_plg hg0.1 e_1
                    refine va_get (D := (dC, dI)) (ci := 3) (v := .ref s2_1) (C := RX3) (T := TX3) (N := 23) hx hb hts iX3_ hown hK hP k_19 hk_19 rfl 1 (by decide) (hts (.fieldLink RX3 13 "FieldLeavesModel" "classOf" "[I") (by decide +kernel)) (fun _ h9 => h9) rfl dX3_changed_85 ?_
                    refine lv_iload hx hb dX3_changed_88 (lv_at hl 3 rfl) ?_
                    obtain ⟨k_20, hk_20⟩ := va_plg fs2_1.1 eg12
                    have h_20 : vp_in z_8 6400 := (vp_in_iff.mpr (by constructor <;> omega))
                    refine va_iald hx hb hK hP k_20 0 hk_20 rfl h_20 dX3_changed_90 ?_
                    refine lv_topi (fun z_20 ez_20 => ?_)
                    obtain rfl : z_14 = z_20 := ez_14.trans ez_20.symm
                    refine lv_iload hx hb dX3_changed_91 (lv_at hl 0 rfl) ?_
                    refine va_calli (va_runS (As := [.int z_14, .int i7]) (rest := []) ⟨hx, hb, hml, hown, hts⟩ (q_X3_has l dC dI TT H.size z_14 i7) (va_cwS 2 hts gX3_changed_X3_has rfl rfl rfl (by decide +kernel) ⟨Nat.le_of_ble_eq_true rfl, Nat.le_of_ble_eq_true rfl⟩) (pr_S (ws := []) (wA := []) (tys := []) vp_nil (hK.sub [] rfl) vd_nil hst hS (ro_free hS hA)) rfl rfl hl.1 rfl (lv_room (Nat.le_of_ble_eq_true rfl)) dX3_changed_93 ⟨Nat.le_of_ble_eq_true rfl, Nat.le_of_ble_eq_true rfl⟩) hS (fun q _ h => (ro_free hS hA) q h) (ro_free hS hA) (fun r_21 u t H1 locs ht hvm hw hB hz1 hk1 hS => ?_)
                    have hP := ro_keep hP hk1
                    generalize H1 = H at hP hS ⊢
                    rcases hw with ⟨rfl, hp_22⟩ | ⟨rfl, hp_22⟩
                    · refine lv_if_eq (tgt := 123) hx hb dX3_changed_96 (by decide) (fun c9 => absurd c9 (by decide)) (fun _ => ?_)
                      refine lv_aload_n hx hb dX3_changed_99 rfl (lv_at hl 4 rfl) ?_
                      refine lv_iload hx hb dX3_changed_100 (lv_at hl 3 rfl) ?_
                      refine lv_iload hx hb dX3_changed_102 (lv_at hl 2 rfl) ?_
                      refine lv_iload hx hb dX3_changed_104 (lv_at hl 0 rfl) ?_
                      obtain ⟨k_23, hk_23⟩ := va_plg hg0.1 e_1
                      refine va_calli (va_runV (b := g0) (As := [.int z_8, .int z_10, .int i7]) (rest := []) ⟨hx, hb, hml, hown, hts⟩ (v_X3_isChanged l dC dI TT H.size kI kJ kZ K L f hPI g0 hg0 z_8 z_10 i7 (by constructor <;> omega) (by constructor <;> omega) (by constructor <;> omega) hU fS fC fF fR fW lo ld lv lm_1 pa_1 hRV) (cwV 3 hts gX3_changed_X3_isChanged rfl rfl rfl (by decide +kernel) ⟨Nat.le_of_ble_eq_true rfl, Nat.le_of_ble_eq_true rfl⟩) ⟨pr_blind, va_recv hK hP (ci := 3) rfl hk_23, (pr_S (ws := va_pl L f) (wA := []) (tys := [(kI, .int), (kJ, .long), (kZ, .boolean)]) hP hK vd_nil hst hS (ro_free hS hA)).2⟩ rfl rfl hl.1 rfl (lv_room (Nat.le_of_ble_eq_true rfl)) dX3_changed_106 ⟨Nat.le_of_ble_eq_true rfl, Nat.le_of_ble_eq_true rfl⟩) hS (fun q _ h => (ro_free hS hA) q h) (ro_free hS hA) (fun r_24 u t H1 locs ht hvm hw hB hz1 hk1 hS => ?_)
                      have hP := ro_keep hP hk1
                      generalize H1 = H at hP hS ⊢
                      rcases hw with ⟨rfl, hp_25⟩ | ⟨rfl, hp_25⟩
                      · refine lv_if_eq (tgt := 123) hx hb dX3_changed_109 (by decide) (fun c9 => absurd c9 (by decide)) (fun _ => ?_)
                        refine lv_iload hx hb dX3_changed_112 (lv_at hl 1 rfl) ?_
                        refine lv_if_ne (tgt := 120) hx hb dX3_changed_114 (by decide) (fun c_26 => ?_) (fun c_26 => ?_)
                        · have c_26 := mt Int32.toInt_inj.mp c_26
                          obtain ⟨i_27, ei_27⟩ : ∃ y : Int32, y = i6 + (-1) := ⟨_, rfl⟩
                          refine lv_iinc (v := i_27) (lv' := [(6, .int i_27), (7, .int i7), (5, .int z_10), (4, .int z_8), (0, .ref g0), (1, .int p0), (2, .int p1), (3, .int p2)]) hx hb dX3_changed_120 hl (k := 1) rfl (by rw [ei_27]; rfl) (by decide) rfl (fun ls hl => ?_)
                          have ki_27 := dec_toInt ei_27 (by omega)
                          obtain ⟨i_28, ei_28⟩ : ∃ y : Int32, y = i7 + 1 := ⟨_, rfl⟩
                          refine lv_iinc (v := i_28) (lv' := [(7, .int i_28), (6, .int i_27), (5, .int z_10), (4, .int z_8), (0, .ref g0), (1, .int p0), (2, .int p1), (3, .int p2)]) hx hb dX3_changed_123 hl (k := 1) rfl (by rw [ei_28]; rfl) (by decide) rfl (fun ls hl => ?_)
                          have ki_28 := inc_toInt ei_28 (by omega)
                          refine lv_goto (tgt := 77) hx hb dX3_changed_126 (by decide) ?_
                          exact ih_77 i_27 i_28 _ _ _  ⟨by omega, chP_next hI.2 (by constructor <;> omega) (show (dfr fC fF fR fW (Int32.toNatClampNeg z_8) (Int32.toNatClampNeg z_10)) (Int32.toNatClampNeg i7) from ⟨(by rw [clamp_int (by omega)]; exact hs_iff.mpr (by rw [← ez_14]; exact hp_22)), hp_25⟩) (by omega) (by omega) ki_28⟩ (by omega) hP hS (lv_sub hl [0, 1, 2, 3, 4, 5, 6, 7] rfl)
                        · have c_26 := congrArg Int32.toInt c_26
                          refine lv_iload hx hb dX3_changed_117 (lv_at hl 0 rfl) ?_
                          subst eQ
                          exact W.iret (v := i7) hx hb hr (fun t ht hW => ⟨⟨i7, (), rfl, (show rs_chg fS fC fF fR fW p0 p1 p2 i7 from by unfold rs_chg; rw [if_pos (by omega), ← ez_8, ← ez_10, if_neg (by omega)]; rw [if_pos (by rw [← ez_14, ← ez_16]; omega)]; exact chP_hit hI.2 (by constructor <;> omega) (show (dfr fC fF fR fW (Int32.toNatClampNeg z_8) (Int32.toNatClampNeg z_10)) (Int32.toNatClampNeg i7) from ⟨(by rw [clamp_int (by omega)]; exact hs_iff.mpr (by rw [← ez_14]; exact hp_22)), hp_25⟩) (by omega)), trivial⟩, hS.F ht⟩) hS.2.2 dX3_changed_119
                      · refine lv_if_eq (tgt := 123) hx hb dX3_changed_109 (by decide) (fun _ => ?_) (fun c9 => absurd c9 (by decide))
                        obtain ⟨i_29, ei_29⟩ : ∃ y : Int32, y = i7 + 1 := ⟨_, rfl⟩
                        refine lv_iinc (v := i_29) (lv' := [(7, .int i_29), (6, .int i6), (5, .int z_10), (4, .int z_8), (0, .ref g0), (1, .int p0), (2, .int p1), (3, .int p2)]) hx hb dX3_changed_123 hl (k := 0) rfl (by rw [ei_29]; rfl) (by decide) rfl (fun ls hl => ?_)
                        have ki_29 := inc_toInt ei_29 (by omega)
                        refine lv_goto (tgt := 77) hx hb dX3_changed_126 (by decide) ?_
                        exact ih_77 i6 i_29 _ _ _  ⟨by omega, chP_skip hI.2 (by constructor <;> omega) (fun h9 => hp_25 h9.2) ki_29⟩ (by omega) hP hS (lv_sub hl [0, 1, 2, 3, 4, 5, 6, 7] rfl)
                    · refine lv_if_eq (tgt := 123) hx hb dX3_changed_96 (by decide) (fun _ => ?_) (fun c9 => absurd c9 (by decide))
                      obtain ⟨i_30, ei_30⟩ : ∃ y : Int32, y = i7 + 1 := ⟨_, rfl⟩
                      refine lv_iinc (v := i_30) (lv' := [(7, .int i_30), (6, .int i6), (5, .int z_10), (4, .int z_8), (0, .ref g0), (1, .int p0), (2, .int p1), (3, .int p2)]) hx hb dX3_changed_123 hl (k := 0) rfl (by rw [ei_30]; rfl) (by decide) rfl (fun ls hl => ?_)
                      have ki_30 := inc_toInt ei_30 (by omega)
                      refine lv_goto (tgt := 77) hx hb dX3_changed_126 (by decide) ?_
                      exact ih_77 i6 i_30 _ _ _  ⟨by omega, chP_skip hI.2 (by constructor <;> omega) (fun h9 => by have h8 := hs_iff.mp h9.1; rw [clamp_int (by omega), ← ez_14] at h8; exact hp_22 h8) ki_30⟩ (by omega) hP hS (lv_sub hl [0, 1, 2, 3, 4, 5, 6, 7] rfl)
              exact loop_77 18 p2 0 _ _ _  ⟨by omega, fun r h9 => by rw [cl_0, k0_] at h9; simpa using h9⟩ (by omega) hP hS hl
            · have c_17 := mt Int32.toInt_inj.mp c_17
              refine lv_bipush (v := (-14)) hx hb dX3_changed_68 (by decide) ?_
              subst eQ
              exact W.iret (v := (-14)) hx hb hr (fun t ht hW => ⟨⟨(-14), (), rfl, (show rs_chg fS fC fF fR fW p0 p1 p2 (-14) from by unfold rs_chg; rw [if_pos (by omega), ← ez_8, ← ez_10, if_neg (by omega)]; rw [← ez_14, ← ez_16, if_neg (by omega)]), trivial⟩, hS.F ht⟩) hS.2.2 dX3_changed_70
          · have c_12 := congrArg Int32.toInt c_12
            refine lv_bipush (v := (-11)) hx hb dX3_changed_48 (by decide) ?_
            subst eQ
            exact W.iret (v := (-11)) hx hb hr (fun t ht hW => ⟨⟨(-11), (), rfl, (show rs_chg fS fC fF fR fW p0 p1 p2 (-11) from by unfold rs_chg; rw [if_pos (by omega), ← ez_8, ← ez_10, if_pos (by omega)]), trivial⟩, hS.F ht⟩) hS.2.2 dX3_changed_50
      · have c_6 := mt Int32.le_iff_toInt_le.mpr c_6
        refine lv_iconst (v := (-1)) hx hb dX3_changed_18 (by decide) ?_
        subst eQ
        exact W.iret (v := (-1)) hx hb hr (fun t ht hW => ⟨⟨(-1), (), rfl, (show rs_chg fS fC fF fR fW p0 p1 p2 (-1) from by unfold rs_chg; rw [if_neg (by omega)]), trivial⟩, hS.F ht⟩) hS.2.2 dX3_changed_19
    · refine lv_if_eq (tgt := 18) hx hb dX3_changed_11 (by decide) (fun _ => ?_) (fun c9 => absurd c9 (by decide))
      refine lv_iconst (v := (-1)) hx hb dX3_changed_18 (by decide) ?_
      subst eQ
      exact W.iret (v := (-1)) hx hb hr (fun t ht hW => ⟨⟨(-1), (), rfl, (show rs_chg fS fC fF fR fW p0 p1 p2 (-1) from by unfold rs_chg; rw [if_neg (by omega)]), trivial⟩, hS.F ht⟩) hS.2.2 dX3_changed_19
  · refine lv_if_eq (tgt := 18) hx hb dX3_changed_4 (by decide) (fun _ => ?_) (fun c9 => absurd c9 (by decide))
    refine lv_iconst (v := (-1)) hx hb dX3_changed_18 (by decide) ?_
    subst eQ
    exact W.iret (v := (-1)) hx hb hr (fun t ht hW => ⟨⟨(-1), (), rfl, (show rs_chg fS fC fF fR fW p0 p1 p2 (-1) from by unfold rs_chg; rw [if_neg (by omega)]), trivial⟩, hS.F ht⟩) hS.2.2 dX3_changed_19
