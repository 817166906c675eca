set_option maxRecDepth 20000 in
theorem in_q_X3_isChanged_X3 : ∀ w ∈ u_ws RX3 TX3 23, w ∈ wsX3_isChanged := by decide +kernel
set_option maxRecDepth 100000 in
set_option maxHeartbeats 4000000 in
theorem q_X3_isChanged (l : Launch) (dC : Nat → ClassId) (dI : Nat → Nat → Nat) (TT : Nat × Nat × Nat) (sz : Nat) (kI kJ kZ : ClassId) (K : Nat → Nat) (L : List Nat) (f : Nat → va_E) (hPI : PR kI kJ kZ K L f) (g0 : Nat) (hg0 : isr K L 10 g0) (a0 b0 f0 : Int32) (ha0 : 0 ≤ a0.toInt ∧ a0.toInt < 6400) (hb0 : 0 ≤ b0.toInt ∧ b0.toInt < 6400) (hf0 : 0 ≤ f0.toInt ∧ f0.toInt < 17) : Met l yX3_isChanged wsX3_isChanged ({ frames := 0, cells := 0, slots := 0, locals := 0 } : Room) (va_Pc [.ref g0, .int a0, .int b0, .int f0] (pr dC dI (va_pl L f) [] [(kI, .int), (kJ, .long), (kZ, .boolean)] sz TT)) (va_Qi (fun (r : Int32) (u : Unit) => r01 r) (fun _ _ => True) (va_A [] sz)) 0 0 (va_A [] sz) := by
  refine Met.ofW (cc := cX3_isChanged) (maxL := 6) (ret := (some .boolean)) (by decide) rfl ?_
  intro p e s m args below meth c s₁ B hml hv
  obtain ⟨rfl, hsz, hP, hK, hD0, hst⟩ := hv
  have hx := B.exec
  have hb := B.bytes
  have hr := B.returns
  have hts := atoms_spec (ws := wsX3_isChanged) B.pre
  have hown : s.vm.findClass RX3 = some m.cls := findClass_of_methodNamed B.named
  have hlocks := B.notSynchronized
  have iX3_ := in_q_X3_isChanged_X3
  subst hsz
  have hD := hD0.self (sz := s.heap.size)
  generalize hAe : va_A [] s.heap.size = A at hD hst ⊢
  have hA : ∀ q : Nat, s.heap.size ≤ q → A q := fun q h => by rw [← hAe]; exact Or.inr h
  have hS : va_S A s.heap s.heap [] := va_S.rf
  have hl := lv_entry ([.ref g0, .int a0, .int b0, .int f0]) (n := 6) (Nat.le_of_ble_eq_true rfl)
  rw [lg_entry_eq]
  generalize (lg_sl ([.ref g0, .int a0, .int b0, .int f0]) ++ List.replicate (6 - (lg_sl ([.ref g0, .int a0, .int b0, .int f0])).length) Slot.unset).toArray = ls at hl ⊢
  have hl : lv_has ls 6 [(0, .ref g0), (1, .int a0), (2, .int b0), (3, .int f0)] := hl
  have k0_ : Int32.toInt 0 = 0 := by decide
  have k1_ : Int32.toInt 1 = 1 := by decide
  have k9_ : Int32.toInt 9 = 9 := by decide
  refine W_nameQ (fun Q0 eQ => ?_)
  refine lv_iload_n hx hb dX3_isChanged_0 rfl (lv_at hl 3 rfl) ?_
  refine lv_bipush (v := 9) hx hb dX3_isChanged_1 (by decide) ?_
  refine lv_icmp_eq (tgt := 38) hx hb dX3_isChanged_3 (by decide) (fun c_1 => ?_) (fun c_1 => ?_)
  · have c_1 := congrArg Int32.toInt c_1
    refine lv_aload_n hx hb dX3_isChanged_38 rfl (lv_at hl 0 rfl) ?_
    (refine hPI.a10E hg0 ?_; intro s1_2 s2_2 s3_2 s4_2 s5_2 s6_2 s7_2 pa_2 lm_2 s8_2 s9_2 s10_2 fm_2 s11_2 nm_2 s12_2 s13_2 s14_2 rm_2 s15_2 s16_2 s17_2 s18_2 e_2 fs1_2 fs2_2 fs3_2 fs4_2 fs5_2 fs6_2 fs7_2 flm_2 fs8_2 fs9_2 fs10_2 ffm_2 fs11_2 fnm_2 fs12_2 fs13_2 fs14_2 frm_2 fs15_2 fs16_2 fs17_2 fs18_2)
    obtain ⟨k_2, hk_2⟩ := va_plg hg0.1 e_2
    refine va_get (D := (dC, dI)) (ci := 3) (v := .ref s4_2) (C := RX3) (T := TX3) (N := 23) hx hb hts iX3_ hown hK hP k_2 hk_2 rfl 3 (by decide) (hts (.fieldLink RX3 21 "FieldLeavesModel" "rowSize" "[I") (by decide +kernel)) (fun _ h9 => h9) rfl dX3_isChanged_39 ?_
    refine lv_iload_n hx hb dX3_isChanged_42 rfl (lv_at hl 1 rfl) ?_
    obtain ⟨g_3, e_3, fg_3⟩ := hPI.a14 fs4_2
    obtain ⟨k_3, hk_3⟩ := va_plg fs4_2.1 e_3
    have h_3 : vp_in a0 6400 := (vp_in_iff.mpr (by constructor <;> omega))
    refine va_iald hx hb hK hP k_3 0 hk_3 rfl h_3 dX3_isChanged_43 ?_
    refine lv_topi (fun z_3 ez_3 => ?_)
    have fz_3 := fg_3 _ (vp_lt h_3)
    rw [← ez_3] at fz_3
    refine lv_aload_n hx hb dX3_isChanged_44 rfl (lv_at hl 0 rfl) ?_
    obtain ⟨k_4, hk_4⟩ := va_plg hg0.1 e_2
    refine va_get (D := (dC, dI)) (ci := 3) (v := .ref s4_2) (C := RX3) (T := TX3) (N := 23) hx hb hts iX3_ hown hK hP k_4 hk_4 rfl 3 (by decide) (hts (.fieldLink RX3 21 "FieldLeavesModel" "rowSize" "[I") (by decide +kernel)) (fun _ h9 => h9) rfl dX3_isChanged_45 ?_
    refine lv_iload_n hx hb dX3_isChanged_48 rfl (lv_at hl 2 rfl) ?_
    obtain ⟨k_5, hk_5⟩ := va_plg fs4_2.1 e_3
    have h_5 : vp_in b0 6400 := (vp_in_iff.mpr (by constructor <;> omega))
    refine va_iald hx hb hK hP k_5 0 hk_5 rfl h_5 dX3_isChanged_49 ?_
    refine lv_topi (fun z_5 ez_5 => ?_)
    have fz_5 := fg_3 _ (vp_lt h_5)
    rw [← ez_5] at fz_5
    refine lv_icmp_eq (tgt := 57) hx hb dX3_isChanged_50 (by decide) (fun c_6 => ?_) (fun c_6 => ?_)
    · have c_6 := congrArg Int32.toInt c_6
      refine lv_iconst (v := 0) hx hb dX3_isChanged_57 (by decide) ?_
      refine lv_istore (lv' := [(4, .int 0), (0, .ref g0), (1, .int a0), (2, .int b0), (3, .int f0)]) hx hb dX3_isChanged_58 hl (by decide) rfl (fun ls hl => ?_)
      refine lv_iconst (v := 0) hx hb dX3_isChanged_60 (by decide) ?_
      refine lv_istore (lv' := [(5, .int 0), (4, .int 0), (0, .ref g0), (1, .int a0), (2, .int b0), (3, .int f0)]) hx hb dX3_isChanged_61 hl (by decide) rfl (fun ls hl => ?_)
      have loop_63 : ∀ (n : Nat) (i5 : Int32) (b4 : Int32)  (H : Heap) (locs : List Loc) (ls : Array Slot), r01 b4 → (0 ≤ i5.toInt ∧ i5.toInt ≤ 20) → (20 - i5.toInt).toNat < n → va_P (dC, dI) vwCl (va_pl L f) H → va_S A s.heap H locs → lv_has ls 6 [(5, .int i5), (4, .int b4), (0, .ref g0), (1, .int a0), (2, .int b0), (3, .int f0)] → W p l e (headSpec wsX3_isChanged ({ frames := 0, cells := 0, slots := 0, locals := 0 } : Room)).room s m (([.ref g0, .int a0, .int b0, .int f0] : List Value).toArray) below meth c H locs 0 0 Q0 (F0 m 63 ls []) := by
        intro n
        induction n with
        | zero => intro i5 b4 H locs ls _ _ h9; exact absurd h9 (Nat.not_lt_zero _)
        | succ n ih_63 =>
          intro i5 b4 H locs ls fb4 hI hM hP hS hl
          rcases fb4 with rfl | rfl
          · have hl : lv_has ls 6 [(5, .int i5), (4, .int 1), (0, .ref g0), (1, .int a0), (2, .int b0), (3, .int f0)] := hl
            refine lv_iload hx hb dX3_isChanged_63 (lv_at hl 0 rfl) ?_
            refine lv_aload_n hx hb dX3_isChanged_65 rfl (lv_at hl 2 rfl) ?_
            obtain ⟨k_7, hk_7⟩ := va_plg hg0.1 e_2
            refine va_get (D := (dC, dI)) (ci := 3) (v := .ref s4_2) (C := RX3) (T := TX3) (N := 23) hx hb hts iX3_ hown hK hP k_7 hk_7 rfl 3 (by decide) (hts (.fieldLink RX3 21 "FieldLeavesModel" "rowSize" "[I") (by decide +kernel)) (fun _ h9 => h9) rfl dX3_isChanged_66 ?_
            refine lv_iload_n hx hb dX3_isChanged_69 rfl (lv_at hl 3 rfl) ?_
            obtain ⟨k_8, hk_8⟩ := va_plg fs4_2.1 e_3
            have h_8 : vp_in a0 6400 := (vp_in_iff.mpr (by constructor <;> omega))
            refine va_iald hx hb hK hP k_8 0 hk_8 rfl h_8 dX3_isChanged_70 ?_
            refine lv_topi (fun z_8 ez_8 => ?_)
            obtain rfl : z_3 = z_8 := ez_3.trans ez_8.symm
            refine lv_icmp_ge (tgt := 119) hx hb dX3_isChanged_71 (by decide) (fun c_9 => ?_) (fun c_9 => ?_)
            · have c_9 := Int32.le_iff_toInt_le.mp c_9
              refine lv_iload hx hb dX3_isChanged_119 (lv_at hl 1 rfl) ?_
              subst eQ
              exact W.zret (v := 1) hx hb hr rfl (fun t ht hW => ⟨⟨1, (), rfl, Or.inl rfl, trivial⟩, hS.F ht⟩) hS.2.2 dX3_isChanged_121
            · have c_9 := mt Int32.le_iff_toInt_le.mpr c_9
              refine lv_iload hx hb dX3_isChanged_74 (lv_at hl 1 rfl) ?_
              refine lv_if_ne (tgt := 119) hx hb dX3_isChanged_76 (by decide) (fun _ => ?_) (fun c9 => absurd c9 (by decide))
              refine lv_iload hx hb dX3_isChanged_119 (lv_at hl 1 rfl) ?_
              subst eQ
              exact W.zret (v := 1) hx hb hr rfl (fun t ht hW => ⟨⟨1, (), rfl, Or.inl rfl, trivial⟩, hS.F ht⟩) hS.2.2 dX3_isChanged_121
          · have hl : lv_has ls 6 [(5, .int i5), (4, .int 0), (0, .ref g0), (1, .int a0), (2, .int b0), (3, .int f0)] := hl
            refine lv_iload hx hb dX3_isChanged_63 (lv_at hl 0 rfl) ?_
            refine lv_aload_n hx hb dX3_isChanged_65 rfl (lv_at hl 2 rfl) ?_
            obtain ⟨k_10, hk_10⟩ := va_plg hg0.1 e_2
            refine va_get (D := (dC, dI)) (ci := 3) (v := .ref s4_2) (C := RX3) (T := TX3) (N := 23) hx hb hts iX3_ hown hK hP k_10 hk_10 rfl 3 (by decide) (hts (.fieldLink RX3 21 "FieldLeavesModel" "rowSize" "[I") (by decide +kernel)) (fun _ h9 => h9) rfl dX3_isChanged_66 ?_
            refine lv_iload_n hx hb dX3_isChanged_69 rfl (lv_at hl 3 rfl) ?_
            obtain ⟨k_11, hk_11⟩ := va_plg fs4_2.1 e_3
            have h_11 : vp_in a0 6400 := (vp_in_iff.mpr (by constructor <;> omega))
            refine va_iald hx hb hK hP k_11 0 hk_11 rfl h_11 dX3_isChanged_70 ?_
            refine lv_topi (fun z_11 ez_11 => ?_)
            obtain rfl : z_3 = z_11 := ez_3.trans ez_11.symm
            refine lv_icmp_ge (tgt := 119) hx hb dX3_isChanged_71 (by decide) (fun c_12 => ?_) (fun c_12 => ?_)
            · have c_12 := Int32.le_iff_toInt_le.mp c_12
              refine lv_iload hx hb dX3_isChanged_119 (lv_at hl 1 rfl) ?_
              subst eQ
              exact W.zret (v := 0) hx hb hr rfl (fun t ht hW => ⟨⟨0, (), rfl, Or.inr rfl, trivial⟩, hS.F ht⟩) hS.2.2 dX3_isChanged_121
            · have c_12 := mt Int32.le_iff_toInt_le.mpr c_12
              refine lv_iload hx hb dX3_isChanged_74 (lv_at hl 1 rfl) ?_
              refine lv_if_ne (tgt := 119) hx hb dX3_isChanged_76 (by decide) (fun c9 => absurd c9 (by decide)) (fun _ => ?_)
              refine lv_aload_n hx hb dX3_isChanged_79 rfl (lv_at hl 2 rfl) ?_
              obtain ⟨k_13, hk_13⟩ := va_plg hg0.1 e_2
              refine va_get (D := (dC, dI)) (ci := 3) (v := .ref s5_2) (C := RX3) (T := TX3) (N := 23) hx hb hts iX3_ hown hK hP k_13 hk_13 rfl 4 (by decide) (hts (.fieldLink RX3 25 "FieldLeavesModel" "rows" "[I") (by decide +kernel)) (fun _ h9 => h9) rfl dX3_isChanged_80 ?_
              refine lv_bipush (v := 20) hx hb dX3_isChanged_83 (by decide) ?_
              refine lv_iload_n hx hb dX3_isChanged_85 rfl (lv_at hl 3 rfl) ?_
              refine lv_imul hx hb dX3_isChanged_86 ?_
              refine lv_topi (fun z_14 ez_14 => ?_)
              have kz_14 := mul20 ez_14 (by omega) (by omega)
              refine lv_iload hx hb dX3_isChanged_87 (lv_at hl 0 rfl) ?_
              refine lv_iadd hx hb dX3_isChanged_89 ?_
              refine lv_topi (fun z_15 ez_15 => ?_)
              have kz_15 := add_toInt ez_15 (by omega) (by omega)
              obtain ⟨g_16, e_16, fg_16⟩ := hPI.a15 fs5_2
              obtain ⟨k_16, hk_16⟩ := va_plg fs5_2.1 e_16
              have h_16 : vp_in z_15 128000 := (vp_in_iff.mpr (by constructor <;> omega))
              refine va_iald hx hb hK hP k_16 0 hk_16 rfl h_16 dX3_isChanged_90 ?_
              refine lv_topi (fun z_16 ez_16 => ?_)
              refine lv_aload_n hx hb dX3_isChanged_91 rfl (lv_at hl 2 rfl) ?_
              obtain ⟨k_17, hk_17⟩ := va_plg hg0.1 e_2
              refine va_get (D := (dC, dI)) (ci := 3) (v := .ref s5_2) (C := RX3) (T := TX3) (N := 23) hx hb hts iX3_ hown hK hP k_17 hk_17 rfl 4 (by decide) (hts (.fieldLink RX3 25 "FieldLeavesModel" "rows" "[I") (by decide +kernel)) (fun _ h9 => h9) rfl dX3_isChanged_92 ?_
              refine lv_bipush (v := 20) hx hb dX3_isChanged_95 (by decide) ?_
              refine lv_iload_n hx hb dX3_isChanged_97 rfl (lv_at hl 4 rfl) ?_
              refine lv_imul hx hb dX3_isChanged_98 ?_
              refine lv_topi (fun z_18 ez_18 => ?_)
              have kz_18 := mul20 ez_18 (by omega) (by omega)
              refine lv_iload hx hb dX3_isChanged_99 (lv_at hl 0 rfl) ?_
              refine lv_iadd hx hb dX3_isChanged_101 ?_
              refine lv_topi (fun z_19 ez_19 => ?_)
              have kz_19 := add_toInt ez_19 (by omega) (by omega)
              obtain ⟨k_20, hk_20⟩ := va_plg fs5_2.1 e_16
              have h_20 : vp_in z_19 128000 := (vp_in_iff.mpr (by constructor <;> omega))
              refine va_iald hx hb hK hP k_20 0 hk_20 rfl h_20 dX3_isChanged_102 ?_
              refine lv_topi (fun z_20 ez_20 => ?_)
              refine lv_icmp_eq (tgt := 110) hx hb dX3_isChanged_103 (by decide) (fun c_21 => ?_) (fun c_21 => ?_)
              · have c_21 := congrArg Int32.toInt c_21
                refine lv_iconst (v := 0) hx hb dX3_isChanged_110 (by decide) ?_
                refine lv_istore (lv' := [(4, .int 0), (5, .int i5), (0, .ref g0), (1, .int a0), (2, .int b0), (3, .int f0)]) hx hb dX3_isChanged_111 hl (by decide) rfl (fun ls hl => ?_)
                obtain ⟨i_22, ei_22⟩ : ∃ y : Int32, y = i5 + 1 := ⟨_, rfl⟩
                refine lv_iinc (v := i_22) (lv' := [(5, .int i_22), (4, .int 0), (0, .ref g0), (1, .int a0), (2, .int b0), (3, .int f0)]) hx hb dX3_isChanged_113 hl (k := 1) rfl (by rw [ei_22]; rfl) (by decide) rfl (fun ls hl => ?_)
                have ki_22 := inc_toInt ei_22 (by omega)
                refine lv_goto (tgt := 63) hx hb dX3_isChanged_116 (by decide) ?_
                exact ih_63 i_22 0 _ _ _ (Or.inr rfl) (by omega) (by omega) hP hS (lv_sub hl [0, 1, 2, 3, 4, 5] rfl)
              · have c_21 := mt Int32.toInt_inj.mp c_21
                refine lv_iconst (v := 1) hx hb dX3_isChanged_106 (by decide) ?_
                refine lv_goto (tgt := 111) hx hb dX3_isChanged_107 (by decide) ?_
                refine lv_istore (lv' := [(4, .int 1), (5, .int i5), (0, .ref g0), (1, .int a0), (2, .int b0), (3, .int f0)]) hx hb dX3_isChanged_111 hl (by decide) rfl (fun ls hl => ?_)
                obtain ⟨i_23, ei_23⟩ : ∃ y : Int32, y = i5 + 1 := ⟨_, rfl⟩
                refine lv_iinc (v := i_23) (lv' := [(5, .int i_23), (4, .int 1), (0, .ref g0), (1, .int a0), (2, .int b0), (3, .int f0)]) hx hb dX3_isChanged_113 hl (k := 1) rfl (by rw [ei_23]; rfl) (by decide) rfl (fun ls hl => ?_)
                have ki_23 := inc_toInt ei_23 (by omega)
                refine lv_goto (tgt := 63) hx hb dX3_isChanged_116 (by decide) ?_
                exact ih_63 i_23 1 _ _ _ (Or.inl rfl) (by omega) (by omega) hP hS (lv_sub hl [0, 1, 2, 3, 4, 5] rfl)
      exact loop_63 21 0 0 _ _ _ (Or.inr rfl) (by omega) (by omega) hP hS hl
    · have c_6 := mt Int32.toInt_inj.mp c_6
      refine lv_iconst (v := 1) hx hb dX3_isChanged_53 (by decide) ?_
      refine lv_goto (tgt := 58) hx hb dX3_isChanged_54 (by decide) ?_
      refine lv_istore (lv' := [(4, .int 1), (0, .ref g0), (1, .int a0), (2, .int b0), (3, .int f0)]) hx hb dX3_isChanged_58 hl (by decide) rfl (fun ls hl => ?_)
      refine lv_iconst (v := 0) hx hb dX3_isChanged_60 (by decide) ?_
      refine lv_istore (lv' := [(5, .int 0), (4, .int 1), (0, .ref g0), (1, .int a0), (2, .int b0), (3, .int f0)]) hx hb dX3_isChanged_61 hl (by decide) rfl (fun ls hl => ?_)
      have loop_63 : ∀ (n : Nat) (i5 : Int32) (b4 : Int32)  (H : Heap) (locs : List Loc) (ls : Array Slot), r01 b4 → (0 ≤ i5.toInt ∧ i5.toInt ≤ 20) → (20 - i5.toInt).toNat < n → va_P (dC, dI) vwCl (va_pl L f) H → va_S A s.heap H locs → lv_has ls 6 [(5, .int i5), (4, .int b4), (0, .ref g0), (1, .int a0), (2, .int b0), (3, .int f0)] → W p l e (headSpec wsX3_isChanged ({ frames := 0, cells := 0, slots := 0, locals := 0 } : Room)).room s m (([.ref g0, .int a0, .int b0, .int f0] : List Value).toArray) below meth c H locs 0 0 Q0 (F0 m 63 ls []) := by
        intro n
        induction n with
        | zero => intro i5 b4 H locs ls _ _ h9; exact absurd h9 (Nat.not_lt_zero _)
        | succ n ih_63 =>
          intro i5 b4 H locs ls fb4 hI hM hP hS hl
          rcases fb4 with rfl | rfl
          · have hl : lv_has ls 6 [(5, .int i5), (4, .int 1), (0, .ref g0), (1, .int a0), (2, .int b0), (3, .int f0)] := hl
            refine lv_iload hx hb dX3_isChanged_63 (lv_at hl 0 rfl) ?_
            refine lv_aload_n hx hb dX3_isChanged_65 rfl (lv_at hl 2 rfl) ?_
            obtain ⟨k_24, hk_24⟩ := va_plg hg0.1 e_2
            refine va_get (D := (dC, dI)) (ci := 3) (v := .ref s4_2) (C := RX3) (T := TX3) (N := 23) hx hb hts iX3_ hown hK hP k_24 hk_24 rfl 3 (by decide) (hts (.fieldLink RX3 21 "FieldLeavesModel" "rowSize" "[I") (by decide +kernel)) (fun _ h9 => h9) rfl dX3_isChanged_66 ?_
            refine lv_iload_n hx hb dX3_isChanged_69 rfl (lv_at hl 3 rfl) ?_
            obtain ⟨k_25, hk_25⟩ := va_plg fs4_2.1 e_3
            have h_25 : vp_in a0 6400 := (vp_in_iff.mpr (by constructor <;> omega))
            refine va_iald hx hb hK hP k_25 0 hk_25 rfl h_25 dX3_isChanged_70 ?_
            refine lv_topi (fun z_25 ez_25 => ?_)
            obtain rfl : z_3 = z_25 := ez_3.trans ez_25.symm
            refine lv_icmp_ge (tgt := 119) hx hb dX3_isChanged_71 (by decide) (fun c_26 => ?_) (fun c_26 => ?_)
            · have c_26 := Int32.le_iff_toInt_le.mp c_26
              refine lv_iload hx hb dX3_isChanged_119 (lv_at hl 1 rfl) ?_
              subst eQ
              exact W.zret (v := 1) hx hb hr rfl (fun t ht hW => ⟨⟨1, (), rfl, Or.inl rfl, trivial⟩, hS.F ht⟩) hS.2.2 dX3_isChanged_121
            · have c_26 := mt Int32.le_iff_toInt_le.mpr c_26
              refine lv_iload hx hb dX3_isChanged_74 (lv_at hl 1 rfl) ?_
              refine lv_if_ne (tgt := 119) hx hb dX3_isChanged_76 (by decide) (fun _ => ?_) (fun c9 => absurd c9 (by decide))
              refine lv_iload hx hb dX3_isChanged_119 (lv_at hl 1 rfl) ?_
              subst eQ
              exact W.zret (v := 1) hx hb hr rfl (fun t ht hW => ⟨⟨1, (), rfl, Or.inl rfl, trivial⟩, hS.F ht⟩) hS.2.2 dX3_isChanged_121
          · have hl : lv_has ls 6 [(5, .int i5), (4, .int 0), (0, .ref g0), (1, .int a0), (2, .int b0), (3, .int f0)] := hl
            refine lv_iload hx hb dX3_isChanged_63 (lv_at hl 0 rfl) ?_
            refine lv_aload_n hx hb dX3_isChanged_65 rfl (lv_at hl 2 rfl) ?_
            obtain ⟨k_27, hk_27⟩ := va_plg hg0.1 e_2
            refine va_get (D := (dC, dI)) (ci := 3) (v := .ref s4_2) (C := RX3) (T := TX3) (N := 23) hx hb hts iX3_ hown hK hP k_27 hk_27 rfl 3 (by decide) (hts (.fieldLink RX3 21 "FieldLeavesModel" "rowSize" "[I") (by decide +kernel)) (fun _ h9 => h9) rfl dX3_isChanged_66 ?_
            refine lv_iload_n hx hb dX3_isChanged_69 rfl (lv_at hl 3 rfl) ?_
            obtain ⟨k_28, hk_28⟩ := va_plg fs4_2.1 e_3
            have h_28 : vp_in a0 6400 := (vp_in_iff.mpr (by constructor <;> omega))
            refine va_iald hx hb hK hP k_28 0 hk_28 rfl h_28 dX3_isChanged_70 ?_
            refine lv_topi (fun z_28 ez_28 => ?_)
            obtain rfl : z_3 = z_28 := ez_3.trans ez_28.symm
            refine lv_icmp_ge (tgt := 119) hx hb dX3_isChanged_71 (by decide) (fun c_29 => ?_) (fun c_29 => ?_)
            · have c_29 := Int32.le_iff_toInt_le.mp c_29
              refine lv_iload hx hb dX3_isChanged_119 (lv_at hl 1 rfl) ?_
              subst eQ
              exact W.zret (v := 0) hx hb hr rfl (fun t ht hW => ⟨⟨0, (), rfl, Or.inr rfl, trivial⟩, hS.F ht⟩) hS.2.2 dX3_isChanged_121
            · have c_29 := mt Int32.le_iff_toInt_le.mpr c_29
              refine lv_iload hx hb dX3_isChanged_74 (lv_at hl 1 rfl) ?_
              refine lv_if_ne (tgt := 119) hx hb dX3_isChanged_76 (by decide) (fun c9 => absurd c9 (by decide)) (fun _ => ?_)
              refine lv_aload_n hx hb dX3_isChanged_79 rfl (lv_at hl 2 rfl) ?_
              obtain ⟨k_30, hk_30⟩ := va_plg hg0.1 e_2
              refine va_get (D := (dC, dI)) (ci := 3) (v := .ref s5_2) (C := RX3) (T := TX3) (N := 23) hx hb hts iX3_ hown hK hP k_30 hk_30 rfl 4 (by decide) (hts (.fieldLink RX3 25 "FieldLeavesModel" "rows" "[I") (by decide +kernel)) (fun _ h9 => h9) rfl dX3_isChanged_80 ?_
              refine lv_bipush (v := 20) hx hb dX3_isChanged_83 (by decide) ?_
              refine lv_iload_n hx hb dX3_isChanged_85 rfl (lv_at hl 3 rfl) ?_
              refine lv_imul hx hb dX3_isChanged_86 ?_
              refine lv_topi (fun z_31 ez_31 => ?_)
              have kz_31 := mul20 ez_31 (by omega) (by omega)
              refine lv_iload hx hb dX3_isChanged_87 (lv_at hl 0 rfl) ?_
              refine lv_iadd hx hb dX3_isChanged_89 ?_
              refine lv_topi (fun z_32 ez_32 => ?_)
              have kz_32 := add_toInt ez_32 (by omega) (by omega)
              obtain ⟨g_33, e_33, fg_33⟩ := hPI.a15 fs5_2
              obtain ⟨k_33, hk_33⟩ := va_plg fs5_2.1 e_33
              have h_33 : vp_in z_32 128000 := (vp_in_iff.mpr (by constructor <;> omega))
              refine va_iald hx hb hK hP k_33 0 hk_33 rfl h_33 dX3_isChanged_90 ?_
              refine lv_topi (fun z_33 ez_33 => ?_)
              refine lv_aload_n hx hb dX3_isChanged_91 rfl (lv_at hl 2 rfl) ?_
              obtain ⟨k_34, hk_34⟩ := va_plg hg0.1 e_2
              refine va_get (D := (dC, dI)) (ci := 3) (v := .ref s5_2) (C := RX3) (T := TX3) (N := 23) hx hb hts iX3_ hown hK hP k_34 hk_34 rfl 4 (by decide) (hts (.fieldLink RX3 25 "FieldLeavesModel" "rows" "[I") (by decide +kernel)) (fun _ h9 => h9) rfl dX3_isChanged_92 ?_
              refine lv_bipush (v := 20) hx hb dX3_isChanged_95 (by decide) ?_
              refine lv_iload_n hx hb dX3_isChanged_97 rfl (lv_at hl 4 rfl) ?_
              refine lv_imul hx hb dX3_isChanged_98 ?_
              refine lv_topi (fun z_35 ez_35 => ?_)
              have kz_35 := mul20 ez_35 (by omega) (by omega)
              refine lv_iload hx hb dX3_isChanged_99 (lv_at hl 0 rfl) ?_
              refine lv_iadd hx hb dX3_isChanged_101 ?_
              refine lv_topi (fun z_36 ez_36 => ?_)
              have kz_36 := add_toInt ez_36 (by omega) (by omega)
              obtain ⟨k_37, hk_37⟩ := va_plg fs5_2.1 e_33
              have h_37 : vp_in z_36 128000 := (vp_in_iff.mpr (by constructor <;> omega))
              refine va_iald hx hb hK hP k_37 0 hk_37 rfl h_37 dX3_isChanged_102 ?_
              refine lv_topi (fun z_37 ez_37 => ?_)
              refine lv_icmp_eq (tgt := 110) hx hb dX3_isChanged_103 (by decide) (fun c_38 => ?_) (fun c_38 => ?_)
              · have c_38 := congrArg Int32.toInt c_38
                refine lv_iconst (v := 0) hx hb dX3_isChanged_110 (by decide) ?_
                refine lv_istore (lv' := [(4, .int 0), (5, .int i5), (0, .ref g0), (1, .int a0), (2, .int b0), (3, .int f0)]) hx hb dX3_isChanged_111 hl (by decide) rfl (fun ls hl => ?_)
                obtain ⟨i_39, ei_39⟩ : ∃ y : Int32, y = i5 + 1 := ⟨_, rfl⟩
                refine lv_iinc (v := i_39) (lv' := [(5, .int i_39), (4, .int 0), (0, .ref g0), (1, .int a0), (2, .int b0), (3, .int f0)]) hx hb dX3_isChanged_113 hl (k := 1) rfl (by rw [ei_39]; rfl) (by decide) rfl (fun ls hl => ?_)
                have ki_39 := inc_toInt ei_39 (by omega)
                refine lv_goto (tgt := 63) hx hb dX3_isChanged_116 (by decide) ?_
                exact ih_63 i_39 0 _ _ _ (Or.inr rfl) (by omega) (by omega) hP hS (lv_sub hl [0, 1, 2, 3, 4, 5] rfl)
              · have c_38 := mt Int32.toInt_inj.mp c_38
                refine lv_iconst (v := 1) hx hb dX3_isChanged_106 (by decide) ?_
                refine lv_goto (tgt := 111) hx hb dX3_isChanged_107 (by decide) ?_
                refine lv_istore (lv' := [(4, .int 1), (5, .int i5), (0, .ref g0), (1, .int a0), (2, .int b0), (3, .int f0)]) hx hb dX3_isChanged_111 hl (by decide) rfl (fun ls hl => ?_)
                obtain ⟨i_40, ei_40⟩ : ∃ y : Int32, y = i5 + 1 := ⟨_, rfl⟩
                refine lv_iinc (v := i_40) (lv' := [(5, .int i_40), (4, .int 1), (0, .ref g0), (1, .int a0), (2, .int b0), (3, .int f0)]) hx hb dX3_isChanged_113 hl (k := 1) rfl (by rw [ei_40]; rfl) (by decide) rfl (fun ls hl => ?_)
                have ki_40 := inc_toInt ei_40 (by omega)
                refine lv_goto (tgt := 63) hx hb dX3_isChanged_116 (by decide) ?_
                exact ih_63 i_40 1 _ _ _ (Or.inl rfl) (by omega) (by omega) hP hS (lv_sub hl [0, 1, 2, 3, 4, 5] rfl)
      exact loop_63 21 0 1 _ _ _ (Or.inl rfl) (by omega) (by omega) hP hS hl
  · have c_1 := mt Int32.toInt_inj.mp c_1
    refine lv_aload_n hx hb dX3_isChanged_6 rfl (lv_at hl 0 rfl) ?_
    (refine hPI.a10E hg0 ?_; intro s1_41 s2_41 s3_41 s4_41 s5_41 s6_41 s7_41 pa_41 lm_41 s8_41 s9_41 s10_41 fm_41 s11_41 nm_41 s12_41 s13_41 s14_41 rm_41 s15_41 s16_41 s17_41 s18_41 e_41 fs1_41 fs2_41 fs3_41 fs4_41 fs5_41 fs6_41 fs7_41 flm_41 fs8_41 fs9_41 fs10_41 ffm_41 fs11_41 fnm_41 fs12_41 fs13_41 fs14_41 frm_41 fs15_41 fs16_41 fs17_41 fs18_41)
    obtain ⟨k_41, hk_41⟩ := va_plg hg0.1 e_41
    refine va_get (D := (dC, dI)) (ci := 3) (v := .ref s3_41) (C := RX3) (T := TX3) (N := 23) hx hb hts iX3_ hown hK hP k_41 hk_41 rfl 2 (by decide) (hts (.fieldLink RX3 17 "FieldLeavesModel" "field" "[J") (by decide +kernel)) (fun _ h9 => h9) rfl dX3_isChanged_7 ?_
    refine lv_bipush (v := 17) hx hb dX3_isChanged_10 (by decide) ?_
    refine lv_iload_n hx hb dX3_isChanged_12 rfl (lv_at hl 1 rfl) ?_
    refine lv_imul hx hb dX3_isChanged_13 ?_
    refine lv_topi (fun z_42 ez_42 => ?_)
    have kz_42 := mul17 ez_42 (by omega) (by omega)
    refine lv_iload_n hx hb dX3_isChanged_14 rfl (lv_at hl 3 rfl) ?_
    refine lv_iadd hx hb dX3_isChanged_15 ?_
    refine lv_topi (fun z_43 ez_43 => ?_)
    have kz_43 := add_toInt ez_43 (by omega) (by omega)
    obtain ⟨g_44, e_44, fg_44⟩ := hPI.a13 fs3_41
    obtain ⟨k_44, hk_44⟩ := va_plg fs3_41.1 e_44
    have h_44 : vp_in z_43 108800 := (vp_in_iff.mpr (by constructor <;> omega))
    refine va_lald hx hb hK hP k_44 1 hk_44 rfl h_44 dX3_isChanged_16 ?_
    refine lv_topl (fun z_44 ez_44 => ?_)
    refine lv_aload_n hx hb dX3_isChanged_17 rfl (lv_at hl 0 rfl) ?_
    obtain ⟨k_45, hk_45⟩ := va_plg hg0.1 e_41
    refine va_get (D := (dC, dI)) (ci := 3) (v := .ref s3_41) (C := RX3) (T := TX3) (N := 23) hx hb hts iX3_ hown hK hP k_45 hk_45 rfl 2 (by decide) (hts (.fieldLink RX3 17 "FieldLeavesModel" "field" "[J") (by decide +kernel)) (fun _ h9 => h9) rfl dX3_isChanged_18 ?_
    refine lv_bipush (v := 17) hx hb dX3_isChanged_21 (by decide) ?_
    refine lv_iload_n hx hb dX3_isChanged_23 rfl (lv_at hl 2 rfl) ?_
    refine lv_imul hx hb dX3_isChanged_24 ?_
    refine lv_topi (fun z_46 ez_46 => ?_)
    have kz_46 := mul17 ez_46 (by omega) (by omega)
    refine lv_iload_n hx hb dX3_isChanged_25 rfl (lv_at hl 3 rfl) ?_
    refine lv_iadd hx hb dX3_isChanged_26 ?_
    refine lv_topi (fun z_47 ez_47 => ?_)
    have kz_47 := add_toInt ez_47 (by omega) (by omega)
    obtain ⟨k_48, hk_48⟩ := va_plg fs3_41.1 e_44
    have h_48 : vp_in z_47 108800 := (vp_in_iff.mpr (by constructor <;> omega))
    refine va_lald hx hb hK hP k_48 1 hk_48 rfl h_48 dX3_isChanged_27 ?_
    refine lv_topl (fun z_48 ez_48 => ?_)
    refine W.lcmp hx hb dX3_isChanged_28 ?_
    refine lv_if_eq (tgt := 36) hx hb dX3_isChanged_29 (by decide) (fun c_49 => ?_) (fun c_49 => ?_)
    · have c_49 := congrArg Int64.toInt ((lg_cmp_eq z_44 z_48).mp c_49)
      refine lv_iconst (v := 0) hx hb dX3_isChanged_36 (by decide) ?_
      subst eQ
      exact W.zret (v := 0) hx hb hr rfl (fun t ht hW => ⟨⟨0, (), rfl, Or.inr rfl, trivial⟩, hS.F ht⟩) hS.2.2 dX3_isChanged_37
    · have c_49 := mt (fun h9 => (lg_cmp_eq z_44 z_48).mpr (Int64.toInt_inj.mp h9)) c_49
      refine lv_iconst (v := 1) hx hb dX3_isChanged_32 (by decide) ?_
      refine lv_goto (tgt := 37) hx hb dX3_isChanged_33 (by decide) ?_
      subst eQ
      exact W.zret (v := 1) hx hb hr rfl (fun t ht hW => ⟨⟨1, (), rfl, Or.inl rfl, trivial⟩, hS.F ht⟩) hS.2.2 dX3_isChanged_37
set_option maxRecDepth 20000 in
theorem in_q_X3_changed_X3 : ∀ w ∈ u_ws RX3 TX3 23, w ∈ wsX3_changed := by decide +kernel
set_option maxRecDepth 100000 in
set_option maxHeartbeats 4000000 in
theorem q_X3_changed (l : Launch) (dC : Nat → ClassId) (dI : Nat → Nat → Nat) (TT : Nat × Nat × Nat) (sz : Nat) (kI kJ kZ : ClassId) (K : Nat → Nat) (L : List Nat) (f : Nat → va_E) (hPI : PR kI kJ kZ K L f) (g0 : Nat) (hg0 : isr K L 10 g0) (p0 : Int32) (p1 : Int32) (p2 : Int32) : Met l yX3_changed wsX3_changed ({ frames := 2, cells := 0, slots := 0, locals := 45 } : Room) (va_Pc [.ref g0, .int p0, .int p1, .int p2] (pr dC dI (va_pl L f) [] [(kI, .int), (kJ, .long), (kZ, .boolean)] sz TT)) (va_Qi (fun (r : Int32) (u : Unit) => True) (fun _ _ => True) (va_A [] sz)) 0 0 (va_A [] sz) := by
  refine Met.ofW (cc := cX3_changed) (maxL := 8) (ret := (some .int)) (by decide) rfl ?_
  intro p e s m args below meth c s₁ B hml hv
  obtain ⟨rfl, hsz, hP, hK, hD0, hst⟩ := hv
  have hx := B.exec
  have hb := B.bytes
  have hr := B.returns
  have hts := atoms_spec (ws := wsX3_changed) B.pre
  have hown : s.vm.findClass RX3 = some m.cls := findClass_of_methodNamed B.named
  have hlocks := B.notSynchronized
  have iX3_ := in_q_X3_changed_X3
  subst hsz
  have hD := hD0.self (sz := s.heap.size)
  generalize hAe : va_A [] s.heap.size = A at hD hst ⊢
  have hA : ∀ q : Nat, s.heap.size ≤ q → A q := fun q h => by rw [← hAe]; exact Or.inr h
  have hS : va_S A s.heap s.heap [] := va_S.rf
  have hl := lv_entry ([.ref g0, .int p0, .int p1, .int p2]) (n := 8) (Nat.le_of_ble_eq_true rfl)
  rw [lg_entry_eq]
  generalize (lg_sl ([.ref g0, .int p0, .int p1, .int p2]) ++ List.replicate (8 - (lg_sl ([.ref g0, .int p0, .int p1, .int p2])).length) Slot.unset).toArray = ls at hl ⊢
  have hl : lv_has ls 8 [(0, .ref g0), (1, .int p0), (2, .int p1), (3, .int p2)] := hl
  have km14_ : Int32.toInt (-14) = -14 := by decide
  have km11_ : Int32.toInt (-11) = -11 := by decide
  have km4_ : Int32.toInt (-4) = -4 := by decide
  have km1_ : Int32.toInt (-1) = -1 := by decide
  have k0_ : Int32.toInt 0 = 0 := by decide
  have k17_ : Int32.toInt 17 = 17 := by decide
  refine W_nameQ (fun Q0 eQ => ?_)
  refine lv_iload_n hx hb dX3_changed_0 rfl (lv_at hl 1 rfl) ?_
  refine va_calli (va_runS (As := [.int p0]) (rest := []) ⟨hx, hb, hml, hown, hts⟩ (c_X3_isSlot l dC dI TT s.heap.size p0) (va_cwS 1 hts gX3_changed_X3_isSlot rfl rfl rfl (by decide +kernel) ⟨Nat.le_of_ble_eq_true rfl, Nat.le_of_ble_eq_true rfl⟩) (pr_S (ws := []) (wA := []) (tys := []) vp_nil (hK.sub [] rfl) vd_nil hst hS (ro_free hS hA)) rfl rfl hl.1 rfl (lv_room (Nat.le_of_ble_eq_true rfl)) dX3_changed_1 ⟨Nat.le_of_ble_eq_true rfl, Nat.le_of_ble_eq_true rfl⟩) hS (fun q _ h => (ro_free hS hA) q h) (ro_free hS hA) (fun r_1 u t H1 locs ht hvm hw hB hz1 hk1 hS => ?_)
  have hP := ro_keep hP hk1
  generalize H1 = H at hP hS ⊢
  rcases hw with ⟨rfl, hp_2⟩ | ⟨rfl, hp_2⟩
  · refine lv_if_eq (tgt := 18) hx hb dX3_changed_4 (by decide) (fun c9 => absurd c9 (by decide)) (fun _ => ?_)
    refine lv_iload_n hx hb dX3_changed_7 rfl (lv_at hl 2 rfl) ?_
    refine va_calli (va_runS (As := [.int p1]) (rest := []) ⟨hx, hb, hml, hown, hts⟩ (c_X3_isSlot l dC dI TT H.size p1) (va_cwS 1 hts gX3_changed_X3_isSlot rfl rfl rfl (by decide +kernel) ⟨Nat.le_of_ble_eq_true rfl, Nat.le_of_ble_eq_true rfl⟩) (pr_S (ws := []) (wA := []) (tys := []) vp_nil (hK.sub [] rfl) vd_nil hst hS (ro_free hS hA)) rfl rfl hl.1 rfl (lv_room (Nat.le_of_ble_eq_true rfl)) dX3_changed_8 ⟨Nat.le_of_ble_eq_true rfl, Nat.le_of_ble_eq_true rfl⟩) hS (fun q _ h => (ro_free hS hA) q h) (ro_free hS hA) (fun r_3 u t H1 locs ht hvm hw hB hz1 hk1 hS => ?_)
    have hP := ro_keep hP hk1
    generalize H1 = H at hP hS ⊢
    rcases hw with ⟨rfl, hp_4⟩ | ⟨rfl, hp_4⟩
    · refine lv_if_eq (tgt := 18) hx hb dX3_changed_11 (by decide) (fun c9 => absurd c9 (by decide)) (fun _ => ?_)
      refine lv_iload_n hx hb dX3_changed_14 rfl (lv_at hl 3 rfl) ?_
      refine lv_if_ge (tgt := 20) hx hb dX3_changed_15 (by decide) (fun c_5 => ?_) (fun c_5 => ?_)
      · have c_5 := Int32.le_iff_toInt_le.mp c_5
        refine lv_aload_n hx hb dX3_changed_20 rfl (lv_at hl 0 rfl) ?_
        (refine hPI.a10E hg0 ?_; intro s1_6 s2_6 s3_6 s4_6 s5_6 s6_6 s7_6 pa_6 lm_6 s8_6 s9_6 s10_6 fm_6 s11_6 nm_6 s12_6 s13_6 s14_6 rm_6 s15_6 s16_6 s17_6 s18_6 e_6 fs1_6 fs2_6 fs3_6 fs4_6 fs5_6 fs6_6 fs7_6 flm_6 fs8_6 fs9_6 fs10_6 ffm_6 fs11_6 fnm_6 fs12_6 fs13_6 fs14_6 frm_6 fs15_6 fs16_6 fs17_6 fs18_6)
        obtain ⟨k_6, hk_6⟩ := va_plg hg0.1 e_6
        refine va_get (D := (dC, dI)) (ci := 3) (v := .ref s1_6) (C := RX3) (T := TX3) (N := 23) hx hb hts iX3_ hown hK hP k_6 hk_6 rfl 0 (by decide) (hts (.fieldLink RX3 7 "FieldLeavesModel" "slot" "[I") (by decide +kernel)) (fun _ h9 => h9) rfl dX3_changed_21 ?_
        refine lv_iload_n hx hb dX3_changed_24 rfl (lv_at hl 1 rfl) ?_
        obtain ⟨g_7, e_7, fg_7⟩ := hPI.a11 fs1_6
        obtain ⟨k_7, hk_7⟩ := va_plg fs1_6.1 e_7
        have h_7 : vp_in p0 12 := (vp_in_iff.mpr (by constructor <;> omega))
        refine va_iald hx hb hK hP k_7 0 hk_7 rfl h_7 dX3_changed_25 ?_
        refine lv_topi (fun z_7 ez_7 => ?_)
        have fz_7 := fg_7 _ (vp_lt h_7)
        rw [← ez_7] at fz_7
        refine lv_istore (lv' := [(4, .int z_7), (0, .ref g0), (1, .int p0), (2, .int p1), (3, .int p2)]) hx hb dX3_changed_26 hl (by decide) rfl (fun ls hl => ?_)
        refine lv_aload_n hx hb dX3_changed_28 rfl (lv_at hl 1 rfl) ?_
        obtain ⟨k_8, hk_8⟩ := va_plg hg0.1 e_6
        refine va_get (D := (dC, dI)) (ci := 3) (v := .ref s1_6) (C := RX3) (T := TX3) (N := 23) hx hb hts iX3_ hown hK hP k_8 hk_8 rfl 0 (by decide) (hts (.fieldLink RX3 7 "FieldLeavesModel" "slot" "[I") (by decide +kernel)) (fun _ h9 => h9) rfl dX3_changed_29 ?_
        refine lv_iload_n hx hb dX3_changed_32 rfl (lv_at hl 3 rfl) ?_
        obtain ⟨k_9, hk_9⟩ := va_plg fs1_6.1 e_7
        have h_9 : vp_in p1 12 := (vp_in_iff.mpr (by constructor <;> omega))
        refine va_iald hx hb hK hP k_9 0 hk_9 rfl h_9 dX3_changed_33 ?_
        refine lv_topi (fun z_9 ez_9 => ?_)
        have fz_9 := fg_7 _ (vp_lt h_9)
        rw [← ez_9] at fz_9
        refine lv_istore (lv' := [(5, .int z_9), (4, .int z_7), (0, .ref g0), (1, .int p0), (2, .int p1), (3, .int p2)]) hx hb dX3_changed_34 hl (by decide) rfl (fun ls hl => ?_)
        refine lv_iload hx hb dX3_changed_36 (lv_at hl 1 rfl) ?_
        refine lv_iconst (v := (-1)) hx hb dX3_changed_38 (by decide) ?_
        refine lv_icmp_eq (tgt := 48) hx hb dX3_changed_39 (by decide) (fun c_10 => ?_) (fun c_10 => ?_)
        · have c_10 := congrArg Int32.toInt c_10
          refine lv_bipush (v := (-11)) hx hb dX3_changed_48 (by decide) ?_
          subst eQ
          exact W.iret (v := (-11)) hx hb hr (fun t ht hW => ⟨⟨(-11), (), rfl, trivial, trivial⟩, hS.F ht⟩) hS.2.2 dX3_changed_50
        · have c_10 := mt Int32.toInt_inj.mp c_10
          refine lv_iload hx hb dX3_changed_42 (lv_at hl 0 rfl) ?_
          refine lv_iconst (v := (-1)) hx hb dX3_changed_44 (by decide) ?_
          refine lv_icmp_ne (tgt := 51) hx hb dX3_changed_45 (by decide) (fun c_11 => ?_) (fun c_11 => ?_)
          · have c_11 := mt Int32.toInt_inj.mp c_11
            refine lv_aload_n hx hb dX3_changed_51 rfl (lv_at hl 2 rfl) ?_
            obtain ⟨k_12, hk_12⟩ := va_plg hg0.1 e_6
            refine va_get (D := (dC, dI)) (ci := 3) (v := .ref s2_6) (C := RX3) (T := TX3) (N := 23) hx hb hts iX3_ hown hK hP k_12 hk_12 rfl 1 (by decide) (hts (.fieldLink RX3 13 "FieldLeavesModel" "classOf" "[I") (by decide +kernel)) (fun _ h9 => h9) rfl dX3_changed_52 ?_
            refine lv_iload hx hb dX3_changed_55 (lv_at hl 1 rfl) ?_
            obtain ⟨g_13, e_13, fg_13⟩ := hPI.a12 fs2_6
            obtain ⟨k_13, hk_13⟩ := va_plg fs2_6.1 e_13
            have h_13 : vp_in z_7 6400 := (vp_in_iff.mpr (by constructor <;> omega))
            refine va_iald hx hb hK hP k_13 0 hk_13 rfl h_13 dX3_changed_57 ?_
            refine lv_topi (fun z_13 ez_13 => ?_)
            refine lv_aload_n hx hb dX3_changed_58 rfl (lv_at hl 2 rfl) ?_
            obtain ⟨k_14, hk_14⟩ := va_plg hg0.1 e_6
            refine va_get (D := (dC, dI)) (ci := 3) (v := .ref s2_6) (C := RX3) (T := TX3) (N := 23) hx hb hts iX3_ hown hK hP k_14 hk_14 rfl 1 (by decide) (hts (.fieldLink RX3 13 "FieldLeavesModel" "classOf" "[I") (by decide +kernel)) (fun _ h9 => h9) rfl dX3_changed_59 ?_
            refine lv_iload hx hb dX3_changed_62 (lv_at hl 0 rfl) ?_
            obtain ⟨k_15, hk_15⟩ := va_plg fs2_6.1 e_13
            have h_15 : vp_in z_9 6400 := (vp_in_iff.mpr (by constructor <;> omega))
            refine va_iald hx hb hK hP k_15 0 hk_15 rfl h_15 dX3_changed_64 ?_
            refine lv_topi (fun z_15 ez_15 => ?_)
            refine lv_icmp_eq (tgt := 71) hx hb dX3_changed_65 (by decide) (fun c_16 => ?_) (fun c_16 => ?_)
            · have c_16 := congrArg Int32.toInt c_16
              refine lv_iload_n hx hb dX3_changed_71 rfl (lv_at hl 5 rfl) ?_
              refine lv_istore (lv' := [(6, .int p2), (5, .int z_9), (4, .int z_7), (0, .ref g0), (1, .int p0), (2, .int p1), (3, .int p2)]) hx hb dX3_changed_72 hl (by decide) rfl (fun ls hl => ?_)
              refine lv_iconst (v := 0) hx hb dX3_changed_74 (by decide) ?_
              refine lv_istore (lv' := [(7, .int 0), (6, .int p2), (5, .int z_9), (4, .int z_7), (0, .ref g0), (1, .int p0), (2, .int p1), (3, .int p2)]) hx hb dX3_changed_75 hl (by decide) rfl (fun ls hl => ?_)
              have loop_77 : ∀ (n : Nat) (i6 : Int32) (i7 : Int32)   (H : Heap) (locs : List Loc) (ls : Array Slot), (0 ≤ i7.toInt ∧ i7.toInt ≤ 17) → (17 - i7.toInt).toNat < n → va_P (dC, dI) vwCl (va_pl L f) H → va_S A s.heap H locs → lv_has ls 8 [(7, .int i7), (6, .int i6), (5, .int z_9), (4, .int z_7), (0, .ref g0), (1, .int p0), (2, .int p1), (3, .int p2)] → W p l e (headSpec wsX3_changed ({ frames := 2, cells := 0, slots := 0, locals := 45 } : Room)).room s m (([.ref g0, .int p0, .int p1, .int p2] : List Value).toArray) below meth c H locs 0 0 Q0 (F0 m 77 ls []) := by
                intro n
                induction n with
                | zero => intro i6 i7 H locs ls  _ h9; exact absurd h9 (Nat.not_lt_zero _)
                | succ n ih_77 =>
                  intro i6 i7 H locs ls  hI hM hP hS hl
                  refine lv_iload hx hb dX3_changed_77 (lv_at hl 0 rfl) ?_
                  refine lv_bipush (v := 17) hx hb dX3_changed_79 (by decide) ?_
                  refine lv_icmp_ge (tgt := 129) hx hb dX3_changed_81 (by decide) (fun c_17 => ?_) (fun c_17 => ?_)
                  · have c_17 := Int32.le_iff_toInt_le.mp c_17
                    refine lv_bipush (v := (-4)) hx hb dX3_changed_129 (by decide) ?_
                    subst eQ
                    exact W.iret (v := (-4)) hx hb hr (fun t ht hW => ⟨⟨(-4), (), rfl, trivial, trivial⟩, hS.F ht⟩) hS.2.2 dX3_changed_131
                  · have c_17 := mt Int32.le_iff_toInt_le.mpr c_17
                    refine lv_aload_n hx hb dX3_changed_84 rfl (lv_at hl 4 rfl) ?_
                    obtain ⟨k_18, hk_18⟩ := va_plg hg0.1 e_6
                    refine va_get (D := (dC, dI)) (ci := 3) (v := .ref s2_6) (C := RX3) (T := TX3) (N := 23) hx hb hts iX3_ hown hK hP k_18 hk_18 rfl 1 (by decide) (hts (.fieldLink RX3 13 "FieldLeavesModel" "classOf" "[I") (by decide +kernel)) (fun _ h9 => h9) rfl dX3_changed_85 ?_
                    refine lv_iload hx hb dX3_changed_88 (lv_at hl 3 rfl) ?_
                    obtain ⟨k_19, hk_19⟩ := va_plg fs2_6.1 e_13
                    have h_19 : vp_in z_7 6400 := (vp_in_iff.mpr (by constructor <;> omega))
                    refine va_iald hx hb hK hP k_19 0 hk_19 rfl h_19 dX3_changed_90 ?_
                    refine lv_topi (fun z_19 ez_19 => ?_)
                    obtain rfl : z_13 = z_19 := ez_13.trans ez_19.symm
                    refine lv_iload hx hb dX3_changed_91 (lv_at hl 0 rfl) ?_
                    refine va_calli (va_runS (As := [.int z_13, .int i7]) (rest := []) ⟨hx, hb, hml, hown, hts⟩ (q_X3_has l dC dI TT H.size z_13 i7) (va_cwS 2 hts gX3_changed_X3_has rfl rfl rfl (by decide +kernel) ⟨Nat.le_of_ble_eq_true rfl, Nat.le_of_ble_eq_true rfl⟩) (pr_S (ws := []) (wA := []) (tys := []) vp_nil (hK.sub [] rfl) vd_nil hst hS (ro_free hS hA)) rfl rfl hl.1 rfl (lv_room (Nat.le_of_ble_eq_true rfl)) dX3_changed_93 ⟨Nat.le_of_ble_eq_true rfl, Nat.le_of_ble_eq_true rfl⟩) hS (fun q _ h => (ro_free hS hA) q h) (ro_free hS hA) (fun r_20 u t H1 locs ht hvm hw hB hz1 hk1 hS => ?_)
                    have hP := ro_keep hP hk1
                    generalize H1 = H at hP hS ⊢
                    rcases hw with ⟨rfl, hp_21⟩ | ⟨rfl, hp_21⟩
                    · refine lv_if_eq (tgt := 123) hx hb dX3_changed_96 (by decide) (fun c9 => absurd c9 (by decide)) (fun _ => ?_)
                      refine lv_aload_n hx hb dX3_changed_99 rfl (lv_at hl 4 rfl) ?_
                      refine lv_iload hx hb dX3_changed_100 (lv_at hl 3 rfl) ?_
                      refine lv_iload hx hb dX3_changed_102 (lv_at hl 2 rfl) ?_
                      refine lv_iload hx hb dX3_changed_104 (lv_at hl 0 rfl) ?_
                      obtain ⟨k_22, hk_22⟩ := va_plg hg0.1 e_6
                      refine va_calli (va_runV (b := g0) (As := [.int z_7, .int z_9, .int i7]) (rest := []) ⟨hx, hb, hml, hown, hts⟩ (q_X3_isChanged l dC dI TT H.size kI kJ kZ K L f hPI g0 hg0 z_7 z_9 i7 (by constructor <;> omega) (by constructor <;> omega) (by constructor <;> omega)) (cwV 3 hts gX3_changed_X3_isChanged rfl rfl rfl (by decide +kernel) ⟨Nat.le_of_ble_eq_true rfl, Nat.le_of_ble_eq_true rfl⟩) ⟨pr_blind, va_recv hK hP (ci := 3) rfl hk_22, (pr_S (ws := va_pl L f) (wA := []) (tys := [(kI, .int), (kJ, .long), (kZ, .boolean)]) hP hK vd_nil hst hS (ro_free hS hA)).2⟩ rfl rfl hl.1 rfl (lv_room (Nat.le_of_ble_eq_true rfl)) dX3_changed_106 ⟨Nat.le_of_ble_eq_true rfl, Nat.le_of_ble_eq_true rfl⟩) hS (fun q _ h => (ro_free hS hA) q h) (ro_free hS hA) (fun r_23 u t H1 locs ht hvm hw hB hz1 hk1 hS => ?_)
                      have hP := ro_keep hP hk1
                      generalize H1 = H at hP hS ⊢
                      rcases hw with rfl | rfl
                      · refine lv_if_eq (tgt := 123) hx hb dX3_changed_109 (by decide) (fun c9 => absurd c9 (by decide)) (fun _ => ?_)
                        refine lv_iload hx hb dX3_changed_112 (lv_at hl 1 rfl) ?_
                        refine lv_if_ne (tgt := 120) hx hb dX3_changed_114 (by decide) (fun c_24 => ?_) (fun c_24 => ?_)
                        · have c_24 := mt Int32.toInt_inj.mp c_24
                          obtain ⟨i_25, ei_25⟩ : ∃ y : Int32, y = i6 + (-1) := ⟨_, rfl⟩
                          refine lv_iinc (v := i_25) (lv' := [(6, .int i_25), (7, .int i7), (5, .int z_9), (4, .int z_7), (0, .ref g0), (1, .int p0), (2, .int p1), (3, .int p2)]) hx hb dX3_changed_120 hl (k := 1) rfl (by rw [ei_25]; rfl) (by decide) rfl (fun ls hl => ?_)
                          obtain ⟨i_26, ei_26⟩ : ∃ y : Int32, y = i7 + 1 := ⟨_, rfl⟩
                          refine lv_iinc (v := i_26) (lv' := [(7, .int i_26), (6, .int i_25), (5, .int z_9), (4, .int z_7), (0, .ref g0), (1, .int p0), (2, .int p1), (3, .int p2)]) hx hb dX3_changed_123 hl (k := 1) rfl (by rw [ei_26]; rfl) (by decide) rfl (fun ls hl => ?_)
                          have ki_26 := inc_toInt ei_26 (by omega)
                          refine lv_goto (tgt := 77) hx hb dX3_changed_126 (by decide) ?_
                          exact ih_77 i_25 i_26 _ _ _  (by omega) (by omega) hP hS (lv_sub hl [0, 1, 2, 3, 4, 5, 6, 7] rfl)
                        · have c_24 := congrArg Int32.toInt c_24
                          refine lv_iload hx hb dX3_changed_117 (lv_at hl 0 rfl) ?_
                          subst eQ
                          exact W.iret (v := i7) hx hb hr (fun t ht hW => ⟨⟨i7, (), rfl, trivial, trivial⟩, hS.F ht⟩) hS.2.2 dX3_changed_119
                      · refine lv_if_eq (tgt := 123) hx hb dX3_changed_109 (by decide) (fun _ => ?_) (fun c9 => absurd c9 (by decide))
                        obtain ⟨i_27, ei_27⟩ : ∃ y : Int32, y = i7 + 1 := ⟨_, rfl⟩
                        refine lv_iinc (v := i_27) (lv' := [(7, .int i_27), (6, .int i6), (5, .int z_9), (4, .int z_7), (0, .ref g0), (1, .int p0), (2, .int p1), (3, .int p2)]) hx hb dX3_changed_123 hl (k := 0) rfl (by rw [ei_27]; rfl) (by decide) rfl (fun ls hl => ?_)
                        have ki_27 := inc_toInt ei_27 (by omega)
                        refine lv_goto (tgt := 77) hx hb dX3_changed_126 (by decide) ?_
                        exact ih_77 i6 i_27 _ _ _  (by omega) (by omega) hP hS (lv_sub hl [0, 1, 2, 3, 4, 5, 6, 7] rfl)
                    · refine lv_if_eq (tgt := 123) hx hb dX3_changed_96 (by decide) (fun _ => ?_) (fun c9 => absurd c9 (by decide))
                      obtain ⟨i_28, ei_28⟩ : ∃ y : Int32, y = i7 + 1 := ⟨_, rfl⟩
                      refine lv_iinc (v := i_28) (lv' := [(7, .int i_28), (6, .int i6), (5, .int z_9), (4, .int z_7), (0, .ref g0), (1, .int p0), (2, .int p1), (3, .int p2)]) hx hb dX3_changed_123 hl (k := 0) rfl (by rw [ei_28]; rfl) (by decide) rfl (fun ls hl => ?_)
                      have ki_28 := inc_toInt ei_28 (by omega)
                      refine lv_goto (tgt := 77) hx hb dX3_changed_126 (by decide) ?_
                      exact ih_77 i6 i_28 _ _ _  (by omega) (by omega) hP hS (lv_sub hl [0, 1, 2, 3, 4, 5, 6, 7] rfl)
              exact loop_77 18 p2 0 _ _ _  (by omega) (by omega) hP hS hl
            · have c_16 := mt Int32.toInt_inj.mp c_16
              refine lv_bipush (v := (-14)) hx hb dX3_changed_68 (by decide) ?_
              subst eQ
              exact W.iret (v := (-14)) hx hb hr (fun t ht hW => ⟨⟨(-14), (), rfl, trivial, trivial⟩, hS.F ht⟩) hS.2.2 dX3_changed_70
          · have c_11 := congrArg Int32.toInt c_11
            refine lv_bipush (v := (-11)) hx hb dX3_changed_48 (by decide) ?_
            subst eQ
            exact W.iret (v := (-11)) hx hb hr (fun t ht hW => ⟨⟨(-11), (), rfl, trivial, trivial⟩, hS.F ht⟩) hS.2.2 dX3_changed_50
      · have c_5 := mt Int32.le_iff_toInt_le.mpr c_5
        refine lv_iconst (v := (-1)) hx hb dX3_changed_18 (by decide) ?_
        subst eQ
        exact W.iret (v := (-1)) hx hb hr (fun t ht hW => ⟨⟨(-1), (), rfl, trivial, trivial⟩, hS.F ht⟩) hS.2.2 dX3_changed_19
    · refine lv_if_eq (tgt := 18) hx hb dX3_changed_11 (by decide) (fun _ => ?_) (fun c9 => absurd c9 (by decide))
      refine lv_iconst (v := (-1)) hx hb dX3_changed_18 (by decide) ?_
      subst eQ
      exact W.iret (v := (-1)) hx hb hr (fun t ht hW => ⟨⟨(-1), (), rfl, trivial, trivial⟩, hS.F ht⟩) hS.2.2 dX3_changed_19
  · refine lv_if_eq (tgt := 18) hx hb dX3_changed_4 (by decide) (fun _ => ?_) (fun c9 => absurd c9 (by decide))
    refine lv_iconst (v := (-1)) hx hb dX3_changed_18 (by decide) ?_
    subst eQ
    exact W.iret (v := (-1)) hx hb hr (fun t ht hW => ⟨⟨(-1), (), rfl, trivial, trivial⟩, hS.F ht⟩) hS.2.2 dX3_changed_19

