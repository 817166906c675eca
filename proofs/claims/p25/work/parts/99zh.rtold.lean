set_option maxRecDepth 20000 in
theorem in_v_X3_told_X3 : ∀ w ∈ u_ws RX3 TX3 23, w ∈ wsX3_told := by decide +kernel
set_option maxRecDepth 100000 in
set_option maxHeartbeats 4000000 in
theorem v_X3_told (l : Launch) (dC : Nat → ClassId) (dI : Nat → Nat → Nat) (TT : Nat × Nat × Nat) (sz : Nat) (kI kJ kZ : ClassId) (K : Nat → Nat) (L : List Nat) (f : Nat → va_E) (hPI : PR kI kJ kZ K L f) (g0 : Nat) (hg0 : isr K L 10 g0) (o0 f0 : Int32) (hU : UN K L) (fS fC : Nat → Int32) (fF : Nat → Int64) (fR fW lo ld : Nat → Int32) (lv : Nat → Int64) (lm pa : Int32) (hRV : RV kI kJ K L f g0 fS fC fF fR fW lo ld lv lm pa) (ll : List (Int32 × Int32 × Int64)) (hLL : LSv lm lo ld lv ll) : Met l yX3_told wsX3_told ({ frames := 0, cells := 0, slots := 0, locals := 0 } : Room) (va_Pc [.ref g0, .int o0, .int f0] (pr dC dI (va_pl L f) [] [(kI, .int), (kJ, .long), (kZ, .boolean)] sz TT)) (va_Ql (fun (r : Int64) (u : Unit) => r = tol ll o0 f0) (fun _ _ => True) (va_A [] sz)) 0 0 (va_A [] sz) := by
  refine Met.ofW (cc := cX3_told) (maxL := 4) (ret := (some .long)) (by decide) rfl ?_
  intro p e s m args below meth c s₁ B hml hv
  obtain ⟨rfl, hsz, hP, hK, hD0, hst⟩ := hv
  have hx := B.exec
  have hb := B.bytes
  have hr := B.returns
  have hts := atoms_spec (ws := wsX3_told) B.pre
  have hown : s.vm.findClass RX3 = some m.cls := findClass_of_methodNamed B.named
  have hlocks := B.notSynchronized
  have iX3_ := in_v_X3_told_X3
  subst hsz
  have hD := hD0.self (sz := s.heap.size)
  generalize hAe : va_A [] s.heap.size = A at hD hst ⊢
  have hA : ∀ q : Nat, s.heap.size ≤ q → A q := fun q h => by rw [← hAe]; exact Or.inr h
  have hS : va_S A s.heap s.heap [] := va_S.rf
  have hl := lv_entry ([.ref g0, .int o0, .int f0]) (n := 4) (Nat.le_of_ble_eq_true rfl)
  rw [lg_entry_eq]
  generalize (lg_sl ([.ref g0, .int o0, .int f0]) ++ List.replicate (4 - (lg_sl ([.ref g0, .int o0, .int f0])).length) Slot.unset).toArray = ls at hl ⊢
  have hl : lv_has ls 4 [(0, .ref g0), (1, .int o0), (2, .int f0)] := hl
  have k0_ : Int32.toInt 0 = 0 := by decide
  have kl0_ : Int64.toInt 0 = 0 := by decide
  have cl_0 : Int32.toNatClampNeg 0 = 0 := by decide
  refine W_nameQ (fun Q0 eQ => ?_)
  (refine hPI.a10E hg0 ?_; intro s1_1 s2_1 s3_1 s4_1 s5_1 s6_1 s7_1 pa_1 lm_1 s8_1 s9_1 s10_1 fm_1 s11_1 nm_1 s12_1 s13_1 s14_1 rm_1 s15_1 s16_1 s17_1 s18_1 e_1 fs1_1 fs2_1 fs3_1 fs4_1 fs5_1 fs6_1 fs7_1 flm_1 fs8_1 fs9_1 fs10_1 ffm_1 fs11_1 fnm_1 fs12_1 fs13_1 fs14_1 frm_1 fs15_1 fs16_1 fs17_1 fs18_1)
  obtain ⟨k_1, hk_1⟩ := va_plg hg0.1 e_1
  have eg11 := hRV.1.1 s1_1 fs1_1
  have fg11 := (hPI.a11 fs1_1).of eg11
  have eg12 := hRV.1.2.1 s2_1 fs2_1
  have fg12 := (hPI.a12 fs2_1).of eg12
  have eg13 := hRV.1.2.2 s3_1 fs3_1
  have fg13 := (hPI.a13 fs3_1).of eg13
  have eg14 := hRV.2.1.1 s4_1 fs4_1
  have fg14 := (hPI.a14 fs4_1).of eg14
  have eg15 := hRV.2.1.2 s5_1 fs5_1
  have fg15 := (hPI.a15 fs5_1).of eg15
  have eg18 := hRV.2.2.1.1 s8_1 fs8_1
  have fg18 := (hPI.a18 fs8_1).of eg18
  have eg19 := hRV.2.2.1.2.1 s9_1 fs9_1
  have fg19 := (hPI.a19 fs9_1).of eg19
  have eg20 := hRV.2.2.1.2.2 s10_1 fs10_1
  have fg20 := (hPI.a20 fs10_1).of eg20
  obtain rfl : lm_1 = lm := (show cI (f g0) 8 = _ from by rw [e_1]; rfl).symm.trans hRV.2.2.2.1
  obtain rfl : pa_1 = pa := (show cI (f g0) 7 = _ from by rw [e_1]; rfl).symm.trans hRV.2.2.2.2
  refine lv_iconst (v := 0) hx hb dX3_told_0 (by decide) ?_
  refine lv_istore_n (lv' := [(3, .int 0), (0, .ref g0), (1, .int o0), (2, .int f0)]) hx hb dX3_told_1 rfl hl (by decide) rfl (fun ls hl => ?_)
  have loop_2 : ∀ (n : Nat) (i3 : Int32)   (H : Heap) (locs : List Loc) (ls : Array Slot), ((0 ≤ i3.toInt ∧ i3.toInt ≤ 300) ∧ tol (ll.drop (Int32.toNatClampNeg i3)) o0 f0 = tol ll o0 f0) → (300 - i3.toInt).toNat < n → va_P (dC, dI) vwCl (va_pl L f) H → va_S A s.heap H locs → lv_has ls 4 [(3, .int i3), (0, .ref g0), (1, .int o0), (2, .int f0)] → W p l e (headSpec wsX3_told ({ frames := 0, cells := 0, slots := 0, locals := 0 } : Room)).room s m (([.ref g0, .int o0, .int f0] : List Value).toArray) below meth c H locs 0 0 Q0 (F0 m 2 ls []) := by
    intro n
    induction n with
    | zero => intro i3 H locs ls  _ h9; exact absurd h9 (Nat.not_lt_zero _)
    | succ n ih_2 =>
      intro i3 H locs ls  hI hM hP hS hl
      refine lv_iload_n hx hb dX3_told_2 rfl (lv_at hl 0 rfl) ?_
      refine lv_aload_n hx hb dX3_told_3 rfl (lv_at hl 1 rfl) ?_
      obtain ⟨k_2, hk_2⟩ := va_plg hg0.1 e_1
      refine va_get (D := (dC, dI)) (ci := 3) (v := .int lm_1) (C := RX3) (T := TX3) (N := 23) hx hb hts iX3_ hown hK hP k_2 hk_2 rfl 8 (by decide) (hts (.fieldLink RX3 184 "FieldLeavesModel" "leafMany" "I") (by decide +kernel)) (fun _ h9 => h9) rfl dX3_told_4 ?_
      refine lv_icmp_ge (tgt := 43) hx hb dX3_told_7 (by decide) (fun c_3 => ?_) (fun c_3 => ?_)
      · have c_3 := Int32.le_iff_toInt_le.mp c_3
        refine lv_lconst (v := 0) hx hb dX3_told_43 (by decide) ?_
        subst eQ
        exact W.lret (v := 0) hx hb hr (fun t ht hW => ⟨⟨0, (), rfl, (by rw [← hI.2]; exact (tol_end hLL (by omega) (by omega)).symm), trivial⟩, hS.F ht⟩) hS.2.2 dX3_told_44
      · have c_3 := mt Int32.le_iff_toInt_le.mpr c_3
        refine lv_aload_n hx hb dX3_told_10 rfl (lv_at hl 1 rfl) ?_
        obtain ⟨k_4, hk_4⟩ := va_plg hg0.1 e_1
        refine va_get (D := (dC, dI)) (ci := 3) (v := .ref s8_1) (C := RX3) (T := TX3) (N := 23) hx hb hts iX3_ hown hK hP k_4 hk_4 rfl 9 (by decide) (hts (.fieldLink RX3 35 "FieldLeavesModel" "leafObject" "[I") (by decide +kernel)) (fun _ h9 => h9) rfl dX3_told_11 ?_
        refine lv_iload_n hx hb dX3_told_14 rfl (lv_at hl 0 rfl) ?_
        obtain ⟨k_5, hk_5⟩ := va_plg fs8_1.1 eg18
        have h_5 : vp_in i3 300 := (vp_in_iff.mpr (by constructor <;> omega))
        refine va_iald hx hb hK hP k_5 0 hk_5 rfl h_5 dX3_told_15 ?_
        refine lv_topi (fun z_5 ez_5 => ?_)
        have fz_5 := fg18 _ (vp_lt h_5)
        rw [← ez_5] at fz_5
        have hdez_5 := congrArg Int32.toInt ez_5
        refine lv_iload_n hx hb dX3_told_16 rfl (lv_at hl 2 rfl) ?_
        refine lv_icmp_ne (tgt := 37) hx hb dX3_told_17 (by decide) (fun c_6 => ?_) (fun c_6 => ?_)
        · have c_6 := mt Int32.toInt_inj.mp c_6
          obtain ⟨i_7, ei_7⟩ : ∃ y : Int32, y = i3 + 1 := ⟨_, rfl⟩
          refine lv_iinc (v := i_7) (lv' := [(3, .int i_7), (0, .ref g0), (1, .int o0), (2, .int f0)]) hx hb dX3_told_37 hl (k := 0) rfl (by rw [ei_7]; rfl) (by decide) rfl (fun ls hl => ?_)
          have ki_7 := inc_toInt ei_7 (by omega)
          refine lv_goto (tgt := 2) hx hb dX3_told_40 (by decide) ?_
          exact ih_2 i_7 _ _ _  ⟨by omega, (tol_next hLL (by omega) (by omega) (by rw [← ez_5]; omega) ki_7).trans hI.2⟩ (by omega) hP hS (lv_sub hl [0, 1, 2, 3] rfl)
        · have c_6 := congrArg Int32.toInt c_6
          refine lv_aload_n hx hb dX3_told_20 rfl (lv_at hl 1 rfl) ?_
          obtain ⟨k_8, hk_8⟩ := va_plg hg0.1 e_1
          refine va_get (D := (dC, dI)) (ci := 3) (v := .ref s9_1) (C := RX3) (T := TX3) (N := 23) hx hb hts iX3_ hown hK hP k_8 hk_8 rfl 10 (by decide) (hts (.fieldLink RX3 38 "FieldLeavesModel" "leafField" "[I") (by decide +kernel)) (fun _ h9 => h9) rfl dX3_told_21 ?_
          refine lv_iload_n hx hb dX3_told_24 rfl (lv_at hl 0 rfl) ?_
          obtain ⟨k_9, hk_9⟩ := va_plg fs9_1.1 eg19
          have h_9 : vp_in i3 300 := (vp_in_iff.mpr (by constructor <;> omega))
          refine va_iald hx hb hK hP k_9 0 hk_9 rfl h_9 dX3_told_25 ?_
          refine lv_topi (fun z_9 ez_9 => ?_)
          have fz_9 := fg19 _ (vp_lt h_9)
          rw [← ez_9] at fz_9
          have hdez_9 := congrArg Int32.toInt ez_9
          refine lv_iload_n hx hb dX3_told_26 rfl (lv_at hl 3 rfl) ?_
          refine lv_icmp_ne (tgt := 37) hx hb dX3_told_27 (by decide) (fun c_10 => ?_) (fun c_10 => ?_)
          · have c_10 := mt Int32.toInt_inj.mp c_10
            obtain ⟨i_11, ei_11⟩ : ∃ y : Int32, y = i3 + 1 := ⟨_, rfl⟩
            refine lv_iinc (v := i_11) (lv' := [(3, .int i_11), (0, .ref g0), (1, .int o0), (2, .int f0)]) hx hb dX3_told_37 hl (k := 0) rfl (by rw [ei_11]; rfl) (by decide) rfl (fun ls hl => ?_)
            have ki_11 := inc_toInt ei_11 (by omega)
            refine lv_goto (tgt := 2) hx hb dX3_told_40 (by decide) ?_
            exact ih_2 i_11 _ _ _  ⟨by omega, (tol_next hLL (by omega) (by omega) (by rw [← ez_5, ← ez_9]; omega) ki_11).trans hI.2⟩ (by omega) hP hS (lv_sub hl [0, 1, 2, 3] rfl)
          · have c_10 := congrArg Int32.toInt c_10
            refine lv_aload_n hx hb dX3_told_30 rfl (lv_at hl 1 rfl) ?_
            obtain ⟨k_12, hk_12⟩ := va_plg hg0.1 e_1
            refine va_get (D := (dC, dI)) (ci := 3) (v := .ref s10_1) (C := RX3) (T := TX3) (N := 23) hx hb hts iX3_ hown hK hP k_12 hk_12 rfl 11 (by decide) (hts (.fieldLink RX3 41 "FieldLeavesModel" "leafValue" "[J") (by decide +kernel)) (fun _ h9 => h9) rfl dX3_told_31 ?_
            refine lv_iload_n hx hb dX3_told_34 rfl (lv_at hl 0 rfl) ?_
            obtain ⟨k_13, hk_13⟩ := va_plg fs10_1.1 eg20
            have h_13 : vp_in i3 300 := (vp_in_iff.mpr (by constructor <;> omega))
            refine va_lald hx hb hK hP k_13 1 hk_13 rfl h_13 dX3_told_35 ?_
            refine lv_topl (fun z_13 ez_13 => ?_)
            subst eQ
            exact W.lret (v := z_13) hx hb hr (fun t ht hW => ⟨⟨z_13, (), rfl, (by rw [← hI.2, ez_13]; exact (tol_hit hLL (by omega) (by omega) (by rw [← ez_5, ← ez_9]; constructor <;> omega)).symm), trivial⟩, hS.F ht⟩) hS.2.2 dX3_told_36
  exact loop_2 301 0 _ _ _  ⟨by omega, by rw [cl_0]; rfl⟩ (by omega) hP hS hl

