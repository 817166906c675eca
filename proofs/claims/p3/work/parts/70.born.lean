set_option maxRecDepth 20000 in
theorem in_g_X3_born_X3 : ∀ w ∈ u_ws RX3 TX3 23, w ∈ wsX3_born := by decide +kernel
set_option maxRecDepth 100000 in
set_option maxHeartbeats 4000000 in
theorem g_X3_born (l : Launch) (dC : Nat → ClassId) (dI : Nat → Nat → Nat) (TT : Nat × Nat × Nat) (sz : Nat) (kI kJ kZ : ClassId) (K : Nat → Nat) (L : List Nat) (f : Nat → va_E) (hPI : PR kI kJ kZ K L f) (g0 : Nat) (hg0 : isr K L 10 g0) (c0 n0 : Int32) (hU : UN K L) (fS fC : Nat → Int32) (fF : Nat → Int64) (hSV : SV kI kJ K L f fS fC fF) (z : Nat → Int32) (hZV : ZV kZ K L f z) (hcz : cnt z 6400 < 6400) : Met l yX3_born wsX3_born ({ frames := 1, cells := 0, slots := 0, locals := 20 } : Room) (va_Pc [.ref g0, .int c0, .int n0] (pr dC dI (va_pl L f) (va_pl L f) [(kI, .int), (kJ, .long), (kZ, .boolean)] sz TT)) (va_Qi (fun (r : Int32) (u : Unit) => LF z (Int32.toNatClampNeg r) ∧ 0 ≤ r.toInt ∧ r.toInt < 6400) (fun (_ : Unit) t => ∃ f2 : Nat → va_E, PR kI kJ kZ K L f2 ∧ (FR (sK [12, 13, 14, 16]) K L f f2 ∧ ∃ (o : Nat) (fG : Nat → Int64), LF z o ∧ ZV kZ K L f2 (upd z o (vp_nar .boolean 1)) ∧ SV kI kJ K L f2 fS (upd fC o c0) fG ∧ BG fF fG o 17) ∧ va_P (dC, dI) vwCl (va_pl L f2) t.heap ∧ va_D (va_A (va_pl L f) sz) (va_pl L f2)) (va_A (va_pl L f) sz)) 0 0 (va_A (va_pl L f) sz) := by
  refine Met.ofW (cc := cX3_born) (maxL := 5) (ret := (some .int)) (by decide) rfl ?_
  intro p e s m args below meth c s₁ B hml hv
  obtain ⟨rfl, hsz, hP, hK, hD0, hst⟩ := hv
  have hx := B.exec
  have hb := B.bytes
  have hr := B.returns
  have hts := atoms_spec (ws := wsX3_born) B.pre
  have hown : s.vm.findClass RX3 = some m.cls := findClass_of_methodNamed B.named
  have hlocks := B.notSynchronized
  have iX3_ := in_g_X3_born_X3
  subst hsz
  have hD := hD0.self (sz := s.heap.size)
  generalize hAe : va_A (va_pl L f) s.heap.size = A at hD hst ⊢
  have hA : ∀ q : Nat, s.heap.size ≤ q → A q := fun q h => by rw [← hAe]; exact Or.inr h
  have hS : va_S A s.heap s.heap [] := va_S.rf
  have hl := lv_entry ([.ref g0, .int c0, .int n0]) (n := 5) (Nat.le_of_ble_eq_true rfl)
  rw [lg_entry_eq]
  generalize (lg_sl ([.ref g0, .int c0, .int n0]) ++ List.replicate (5 - (lg_sl ([.ref g0, .int c0, .int n0])).length) Slot.unset).toArray = ls at hl ⊢
  have hl : lv_has ls 5 [(0, .ref g0), (1, .int c0), (2, .int n0)] := hl
  have km1_ : Int32.toInt (-1) = -1 := by decide
  have k0_ : Int32.toInt 0 = 0 := by decide
  have k1_ : Int32.toInt 1 = 1 := by decide
  have k2_ : Int32.toInt 2 = 2 := by decide
  have k4_ : Int32.toInt 4 = 4 := by decide
  have k13_ : Int32.toInt 13 = 13 := by decide
  have k16_ : Int32.toInt 16 = 16 := by decide
  have k17_ : Int32.toInt 17 = 17 := by decide
  have klm1_ : Int64.toInt (-1) = -1 := by decide
  have kl0_ : Int64.toInt 0 = 0 := by decide
  have hfr : FR (sK [12, 13, 14, 16]) K L f f := FR.rf
  refine W_nameQ (fun Q0 eQ => ?_)
  obtain ⟨s1_1, s2_1, s3_1, s4_1, s5_1, s6_1, s7_1, pa_1, lm_1, s8_1, s9_1, s10_1, fm_1, s11_1, nm_1, s12_1, s13_1, s14_1, rm_1, s15_1, s16_1, s17_1, s18_1, e_1, fs1_1, fs2_1, fs3_1, fs4_1, fs5_1, fs6_1, fs7_1, flm_1, fs8_1, fs9_1, fs10_1, ffm_1, fs11_1, fnm_1, fs12_1, fs13_1, fs14_1, frm_1, fs15_1, fs16_1, fs17_1, fs18_1⟩ := hPI.a10 hg0
  obtain ⟨k_1, hk_1⟩ := va_plg hg0.1 e_1
  have eg_2 := hSV.1 s1_1 fs1_1
  have fg_2 := (hPI.a11 fs1_1).of eg_2
  have eg_3 := hSV.2.1 s2_1 fs2_1
  have fg_3 := (hPI.a12 fs2_1).of eg_3
  have eg_4 := hSV.2.2 s3_1 fs3_1
  have fg_4 := (hPI.a13 fs3_1).of eg_4
  have eg_5 := hZV s6_1 fs6_1
  have fg_5 := (hPI.a16 fs6_1).of eg_5
  refine lv_iconst (v := 0) hx hb dX3_born_0 (by decide) ?_
  refine lv_istore_n (lv' := [(3, .int 0), (0, .ref g0), (1, .int c0), (2, .int n0)]) hx hb dX3_born_1 rfl hl (by decide) rfl (fun ls hl => ?_)
  have loop_2 : ∀ (n : Nat) (i3 : Int32)   (fl : Nat → va_E) (H : Heap) (locs : List Loc) (ls : Array Slot), (0 ≤ i3.toInt ∧ i3.toInt ≤ 6400) → (6400 - i3.toInt).toNat < n → (f = fl ∧ (∀ j : Nat, (j : Int) < i3.toInt → z j ≠ 0)) → PR kI kJ kZ K L fl → va_P (dC, dI) vwCl (va_pl L fl) H → va_D A (va_pl L fl) → va_S A s.heap H locs → lv_has ls 5 [(3, .int i3), (0, .ref g0), (1, .int c0), (2, .int n0)] → W p l e (headSpec wsX3_born ({ frames := 1, cells := 0, slots := 0, locals := 20 } : Room)).room s m (([.ref g0, .int c0, .int n0] : List Value).toArray) below meth c H locs 0 0 Q0 (F0 m 2 ls []) := by
    intro n
    induction n with
    | zero => intro i3 fl H locs ls  _ h9; exact absurd h9 (Nat.not_lt_zero _)
    | succ n ih_2 =>
      intro i3 fl H locs ls  hI hM hFN hPI hP hD hS hl
      obtain ⟨hff, hFN⟩ := hFN
      subst hff
      have hzz := hFN
      have hlt := lf_lt hzz hcz
      refine lv_aload_n hx hb dX3_born_2 rfl (lv_at hl 1 rfl) ?_
      obtain ⟨k_6, hk_6⟩ := va_plg hg0.1 e_1
      refine va_get (D := (dC, dI)) (ci := 3) (v := .ref s6_1) (C := RX3) (T := TX3) (N := 23) hx hb hts iX3_ hown hK hP k_6 hk_6 rfl 5 (by decide) (hts (.fieldLink RX3 28 "FieldLeavesModel" "isHeld" "[Z") (by decide +kernel)) (fun _ h9 => h9) rfl dX3_born_3 ?_
      refine lv_iload_n hx hb dX3_born_6 rfl (lv_at hl 0 rfl) ?_
      obtain ⟨k_7, hk_7⟩ := va_plg fs6_1.1 eg_5
      have h_7 : vp_in i3 6400 := (vp_in_iff.mpr (by constructor <;> omega))
      refine va_zald hx hb hK hP k_7 2 hk_7 rfl h_7 dX3_born_7 ?_
      refine lv_topi (fun z_7 ez_7 => ?_)
      refine lv_if_eq (tgt := 17) hx hb dX3_born_8 (by decide) (fun c_8 => ?_) (fun c_8 => ?_)
      · have c_8 := congrArg Int32.toInt c_8
        have hLF := lf_mk hzz (by constructor <;> omega) (z_of ez_7 (by omega))
        refine lv_aload_n hx hb dX3_born_17 rfl (lv_at hl 1 rfl) ?_
        obtain ⟨k_9, hk_9⟩ := va_plg hg0.1 e_1
        refine va_get (D := (dC, dI)) (ci := 3) (v := .ref s6_1) (C := RX3) (T := TX3) (N := 23) hx hb hts iX3_ hown hK hP k_9 hk_9 rfl 5 (by decide) (hts (.fieldLink RX3 28 "FieldLeavesModel" "isHeld" "[Z") (by decide +kernel)) (fun _ h9 => h9) rfl dX3_born_18 ?_
        refine lv_iload_n hx hb dX3_born_21 rfl (lv_at hl 0 rfl) ?_
        refine lv_iconst (v := 1) hx hb dX3_born_22 (by decide) ?_
        obtain ⟨k_10, hk_10⟩ := va_plg fs6_1.1 eg_5
        have h_10 : vp_in i3 6400 := (vp_in_iff.mpr (by constructor <;> omega))
        have fw_10 := trivial
        have hD9 := hD
        refine va_zast hx hb hK hP hD hS k_10 2 hk_10 rfl h_10 dX3_born_23 (fun H locs hP hD hS => ?_)
        have hP : va_P (dC, dI) vwCl (va_pl L (va_up f s6_1 (.inl (kZ, 6400, .inl (upd z (Int32.toNatClampNeg i3) (vp_nar .boolean 1)))))) H := by rw [← va_pls hD9 fs6_1.1 hk_10 _]; exact hP
        have hD : va_D A (va_pl L (va_up f s6_1 (.inl (kZ, 6400, .inl (upd z (Int32.toNatClampNeg i3) (vp_nar .boolean 1)))))) := by rw [← va_pls hD9 fs6_1.1 hk_10 _]; exact hD
        have hPI := hPI.put (e := .inl (kZ, 6400, .inl (upd z (Int32.toNatClampNeg i3) (vp_nar .boolean 1)))) fs6_1 ⟨_, rfl, fw_10⟩
        have es_f_11 : va_up f s6_1 (.inl (kZ, 6400, .inl (upd z (Int32.toNatClampNeg i3) (vp_nar .boolean 1)))) s6_1 = .inl (kZ, 6400, .inl (upd z (Int32.toNatClampNeg i3) (vp_nar .boolean 1))) := va_up_self _ _ _
        have eq_12 := (va_up_ne f (.inl (kZ, 6400, .inl (upd z (Int32.toNatClampNeg i3) (vp_nar .boolean 1)))) (isr_ne hg0 fs6_1 (by decide))).trans e_1
        have eq_13 := (va_up_ne f (.inl (kZ, 6400, .inl (upd z (Int32.toNatClampNeg i3) (vp_nar .boolean 1)))) (isr_ne fs1_1 fs6_1 (by decide))).trans eg_2
        have eq_14 := (va_up_ne f (.inl (kZ, 6400, .inl (upd z (Int32.toNatClampNeg i3) (vp_nar .boolean 1)))) (isr_ne fs2_1 fs6_1 (by decide))).trans eg_3
        have eq_15 := (va_up_ne f (.inl (kZ, 6400, .inl (upd z (Int32.toNatClampNeg i3) (vp_nar .boolean 1)))) (isr_ne fs3_1 fs6_1 (by decide))).trans eg_4
        have hfr := fr_up (S := (sK [12, 13, 14, 16])) (e := .inl (kZ, 6400, .inl (upd z (Int32.toNatClampNeg i3) (vp_nar .boolean 1)))) hfr fs6_1 (by decide)
        generalize va_up f s6_1 (.inl (kZ, 6400, .inl (upd z (Int32.toNatClampNeg i3) (vp_nar .boolean 1)))) = f_11 at hP hD hPI es_f_11 eq_12 eq_13 eq_14 eq_15 hfr
        refine lv_aload_n hx hb dX3_born_24 rfl (lv_at hl 1 rfl) ?_
        obtain ⟨k_16, hk_16⟩ := va_plg hg0.1 eq_12
        refine va_get (D := (dC, dI)) (ci := 3) (v := .ref s2_1) (C := RX3) (T := TX3) (N := 23) hx hb hts iX3_ hown hK hP k_16 hk_16 rfl 1 (by decide) (hts (.fieldLink RX3 13 "FieldLeavesModel" "classOf" "[I") (by decide +kernel)) (fun _ h9 => h9) rfl dX3_born_25 ?_
        refine lv_iload_n hx hb dX3_born_28 rfl (lv_at hl 0 rfl) ?_
        refine lv_iload_n hx hb dX3_born_29 rfl (lv_at hl 2 rfl) ?_
        obtain ⟨k_17, hk_17⟩ := va_plg fs2_1.1 eq_14
        have h_17 : vp_in i3 6400 := (vp_in_iff.mpr (by constructor <;> omega))
        have fw_17 := trivial
        have hD9 := hD
        refine va_iast hx hb hK hP hD hS k_17 0 hk_17 rfl h_17 dX3_born_30 (fun H locs hP hD hS => ?_)
        have hP : va_P (dC, dI) vwCl (va_pl L (va_up f_11 s2_1 (.inl (kI, 6400, .inl (upd fC (Int32.toNatClampNeg i3) c0))))) H := by rw [← va_pls hD9 fs2_1.1 hk_17 _]; exact hP
        have hD : va_D A (va_pl L (va_up f_11 s2_1 (.inl (kI, 6400, .inl (upd fC (Int32.toNatClampNeg i3) c0))))) := by rw [← va_pls hD9 fs2_1.1 hk_17 _]; exact hD
        have hPI := hPI.put (e := .inl (kI, 6400, .inl (upd fC (Int32.toNatClampNeg i3) c0))) fs2_1 ⟨_, rfl, fw_17⟩
        have es_f_18 : va_up f_11 s2_1 (.inl (kI, 6400, .inl (upd fC (Int32.toNatClampNeg i3) c0))) s2_1 = .inl (kI, 6400, .inl (upd fC (Int32.toNatClampNeg i3) c0)) := va_up_self _ _ _
        have eq_19 := (va_up_ne f_11 (.inl (kI, 6400, .inl (upd fC (Int32.toNatClampNeg i3) c0))) (isr_ne hg0 fs2_1 (by decide))).trans eq_12
        have eq_20 := (va_up_ne f_11 (.inl (kI, 6400, .inl (upd fC (Int32.toNatClampNeg i3) c0))) (isr_ne fs1_1 fs2_1 (by decide))).trans eq_13
        have eq_21 := (va_up_ne f_11 (.inl (kI, 6400, .inl (upd fC (Int32.toNatClampNeg i3) c0))) (isr_ne fs3_1 fs2_1 (by decide))).trans eq_15
        have eq_22 := (va_up_ne f_11 (.inl (kI, 6400, .inl (upd fC (Int32.toNatClampNeg i3) c0))) (isr_ne fs6_1 fs2_1 (by decide))).trans es_f_11
        have hfr := fr_up (S := (sK [12, 13, 14, 16])) (e := .inl (kI, 6400, .inl (upd fC (Int32.toNatClampNeg i3) c0))) hfr fs2_1 (by decide)
        generalize va_up f_11 s2_1 (.inl (kI, 6400, .inl (upd fC (Int32.toNatClampNeg i3) c0))) = f_18 at hP hD hPI es_f_18 eq_19 eq_20 eq_21 eq_22 hfr
        refine lv_iconst (v := 0) hx hb dX3_born_31 (by decide) ?_
        refine lv_istore (lv' := [(4, .int 0), (3, .int i3), (0, .ref g0), (1, .int c0), (2, .int n0)]) hx hb dX3_born_32 hl (by decide) rfl (fun ls hl => ?_)
        have hfrE34 := hfr
        have loop_34 : ∀ (n : Nat) (i4 : Int32)   (fl34 : Nat → va_E) (H : Heap) (locs : List Loc) (ls : Array Slot), (0 ≤ i4.toInt ∧ i4.toInt ≤ 17) → (17 - i4.toInt).toNat < n → (FR (sK [12, 13, 14, 16]) K L f_18 fl34 ∧ (∃ fG : Nat → Int64, SV kI kJ K L fl34 fS (upd fC (Int32.toNatClampNeg i3) c0) fG ∧ ZV kZ K L fl34 (upd z (Int32.toNatClampNeg i3) (vp_nar .boolean 1)) ∧ BG fF fG (Int32.toNatClampNeg i3) i4.toInt)) → PR kI kJ kZ K L fl34 → va_P (dC, dI) vwCl (va_pl L fl34) H → va_D A (va_pl L fl34) → va_S A s.heap H locs → lv_has ls 5 [(4, .int i4), (3, .int i3), (0, .ref g0), (1, .int c0), (2, .int n0)] → W p l e (headSpec wsX3_born ({ frames := 1, cells := 0, slots := 0, locals := 20 } : Room)).room s m (([.ref g0, .int c0, .int n0] : List Value).toArray) below meth c H locs 0 0 Q0 (F0 m 34 ls []) := by
          intro n
          induction n with
          | zero => intro i4 fl34 H locs ls  _ h9; exact absurd h9 (Nat.not_lt_zero _)
          | succ n ih_34 =>
            intro i4 fl34 H locs ls  hI hM hFN hPI hP hD hS hl
            obtain ⟨hfr, hFN⟩ := hFN
            have eq_23 := (hfr g0 hg0.1 (by rw [hg0.2]; rfl)).trans eq_19
            have eq_24 := (hfr s1_1 fs1_1.1 (by rw [fs1_1.2]; rfl)).trans eq_20
            obtain ⟨fG, hSV, hZV, hBG⟩ := hFN
            have eg_25 := hSV.1 s1_1 fs1_1
            have fg_25 := (hPI.a11 fs1_1).of eg_25
            have eg_26 := hSV.2.1 s2_1 fs2_1
            have fg_26 := (hPI.a12 fs2_1).of eg_26
            have eg_27 := hSV.2.2 s3_1 fs3_1
            have fg_27 := (hPI.a13 fs3_1).of eg_27
            have eg_28 := hZV s6_1 fs6_1
            have fg_28 := (hPI.a16 fs6_1).of eg_28
            refine lv_iload hx hb dX3_born_34 (lv_at hl 0 rfl) ?_
            refine lv_bipush (v := 17) hx hb dX3_born_36 (by decide) ?_
            refine lv_icmp_ge (tgt := 74) hx hb dX3_born_38 (by decide) (fun c_29 => ?_) (fun c_29 => ?_)
            · have c_29 := Int32.le_iff_toInt_le.mp c_29
              have h17 : i4.toInt = 17 := by omega
              rw [h17] at hBG
              refine lv_aload_n hx hb dX3_born_74 rfl (lv_at hl 2 rfl) ?_
              obtain ⟨k_30, hk_30⟩ := va_plg hg0.1 eq_23
              refine va_get (D := (dC, dI)) (ci := 3) (v := .ref s4_1) (C := RX3) (T := TX3) (N := 23) hx hb hts iX3_ hown hK hP k_30 hk_30 rfl 3 (by decide) (hts (.fieldLink RX3 21 "FieldLeavesModel" "rowSize" "[I") (by decide +kernel)) (fun _ h9 => h9) rfl dX3_born_75 ?_
              refine lv_iload_n hx hb dX3_born_78 rfl (lv_at hl 1 rfl) ?_
              refine lv_iconst (v := (-1)) hx hb dX3_born_79 (by decide) ?_
              obtain ⟨g_31, e_31, fg_31⟩ := hPI.a14 fs4_1
              obtain ⟨k_31, hk_31⟩ := va_plg fs4_1.1 e_31
              have h_31 : vp_in i3 6400 := (vp_in_iff.mpr (by constructor <;> omega))
              have fw_31 := updS (P := fun v => -1 ≤ v.toInt ∧ v.toInt ≤ 20) (k := Int32.toNatClampNeg i3) (v := (-1)) fg_31 (by omega)
              have hD9 := hD
              refine va_iast hx hb hK hP hD hS k_31 0 hk_31 rfl h_31 dX3_born_80 (fun H locs hP hD hS => ?_)
              have hP : va_P (dC, dI) vwCl (va_pl L (va_up fl34 s4_1 (.inl (kI, 6400, .inl (upd g_31 (Int32.toNatClampNeg i3) (-1)))))) H := by rw [← va_pls hD9 fs4_1.1 hk_31 _]; exact hP
              have hD : va_D A (va_pl L (va_up fl34 s4_1 (.inl (kI, 6400, .inl (upd g_31 (Int32.toNatClampNeg i3) (-1)))))) := by rw [← va_pls hD9 fs4_1.1 hk_31 _]; exact hD
              have hPI := hPI.put (e := .inl (kI, 6400, .inl (upd g_31 (Int32.toNatClampNeg i3) (-1)))) fs4_1 ⟨_, rfl, fw_31⟩
              have es_f_32 : va_up fl34 s4_1 (.inl (kI, 6400, .inl (upd g_31 (Int32.toNatClampNeg i3) (-1)))) s4_1 = .inl (kI, 6400, .inl (upd g_31 (Int32.toNatClampNeg i3) (-1))) := va_up_self _ _ _
              have eq_33 := (va_up_ne fl34 (.inl (kI, 6400, .inl (upd g_31 (Int32.toNatClampNeg i3) (-1)))) (isr_ne hg0 fs4_1 (by decide))).trans eq_23
              have eq_34 := (va_up_ne fl34 (.inl (kI, 6400, .inl (upd g_31 (Int32.toNatClampNeg i3) (-1)))) (isr_ne fs1_1 fs4_1 (by decide))).trans eg_25
              have eq_35 := (va_up_ne fl34 (.inl (kI, 6400, .inl (upd g_31 (Int32.toNatClampNeg i3) (-1)))) (isr_ne fs2_1 fs4_1 (by decide))).trans eg_26
              have eq_36 := (va_up_ne fl34 (.inl (kI, 6400, .inl (upd g_31 (Int32.toNatClampNeg i3) (-1)))) (isr_ne fs3_1 fs4_1 (by decide))).trans eg_27
              have eq_37 := (va_up_ne fl34 (.inl (kI, 6400, .inl (upd g_31 (Int32.toNatClampNeg i3) (-1)))) (isr_ne fs6_1 fs4_1 (by decide))).trans eg_28
              have hfr := fr_up (S := (sK [12, 13, 14, 16])) (e := .inl (kI, 6400, .inl (upd g_31 (Int32.toNatClampNeg i3) (-1)))) hfr fs4_1 (by decide)
              generalize va_up fl34 s4_1 (.inl (kI, 6400, .inl (upd g_31 (Int32.toNatClampNeg i3) (-1)))) = f_32 at hP hD hPI es_f_32 eq_33 eq_34 eq_35 eq_36 eq_37 hfr
              refine lv_iload_n hx hb dX3_born_81 rfl (lv_at hl 3 rfl) ?_
              refine lv_iconst (v := 2) hx hb dX3_born_82 (by decide) ?_
              refine lv_icmp_ne (tgt := 100) hx hb dX3_born_83 (by decide) (fun c_38 => ?_) (fun c_38 => ?_)
              · have c_38 := mt Int32.toInt_inj.mp c_38
                refine lv_iload_n hx hb dX3_born_100 rfl (lv_at hl 3 rfl) ?_
                refine lv_iconst (v := 4) hx hb dX3_born_101 (by decide) ?_
                refine lv_icmp_ne (tgt := 119) hx hb dX3_born_102 (by decide) (fun c_39 => ?_) (fun c_39 => ?_)
                · have c_39 := mt Int32.toInt_inj.mp c_39
                  refine lv_iload_n hx hb dX3_born_119 rfl (lv_at hl 1 rfl) ?_
                  subst eQ
                  exact W.iret (v := i3) hx hb hr (fun t ht hW => ⟨⟨i3, (), rfl, ⟨hLF, by omega, by omega⟩, f_32, hPI, ⟨(FR.tr hfrE34 hfr (fun _ h => h)), _, _, hLF, ZV.mk hU fs6_1 eq_37, SV.mk hU fs1_1 fs2_1 fs3_1 eq_34 eq_35 eq_36, hBG⟩, by rw [ht]; exact hP, hD⟩, hS.F ht⟩) hS.2.2 dX3_born_120
                · have c_39 := congrArg Int32.toInt c_39
                  refine lv_aload_n hx hb dX3_born_105 rfl (lv_at hl 2 rfl) ?_
                  obtain ⟨k_40, hk_40⟩ := va_plg hg0.1 eq_33
                  refine va_get (D := (dC, dI)) (ci := 3) (v := .ref s3_1) (C := RX3) (T := TX3) (N := 23) hx hb hts iX3_ hown hK hP k_40 hk_40 rfl 2 (by decide) (hts (.fieldLink RX3 17 "FieldLeavesModel" "field" "[J") (by decide +kernel)) (fun _ h9 => h9) rfl dX3_born_106 ?_
                  refine lv_bipush (v := 17) hx hb dX3_born_109 (by decide) ?_
                  refine lv_iload_n hx hb dX3_born_111 rfl (lv_at hl 1 rfl) ?_
                  refine lv_imul hx hb dX3_born_112 ?_
                  refine lv_topi (fun z_41 ez_41 => ?_)
                  have kz_41 := mul17 ez_41 (by omega) (by omega)
                  refine lv_bipush (v := 16) hx hb dX3_born_113 (by decide) ?_
                  refine lv_iadd hx hb dX3_born_115 ?_
                  refine lv_topi (fun z_42 ez_42 => ?_)
                  have kz_42 := add_toInt ez_42 (by omega) (by omega)
                  refine lv_iload_n hx hb dX3_born_116 rfl (lv_at hl 4 rfl) ?_
                  refine lv_i2l (v := Int32.toInt64 n0) hx hb dX3_born_117 rfl ?_
                  have k_z_43 := Int32.toInt_toInt64 n0
                  obtain ⟨k_44, hk_44⟩ := va_plg fs3_1.1 eq_36
                  have h_44 : vp_in z_42 108800 := (vp_in_iff.mpr (by constructor <;> omega))
                  have fw_44 := rgF.plain fg_27 (o := i3) (f := 16) (w := z_42) (v := (Int32.toInt64 n0)) (by constructor <;> omega) (by omega) (by omega)
                  have hD9 := hD
                  refine va_last hx hb hK hP hD hS k_44 1 hk_44 rfl h_44 dX3_born_118 (fun H locs hP hD hS => ?_)
                  have hP : va_P (dC, dI) vwCl (va_pl L (va_up f_32 s3_1 (.inl (kJ, 108800, .inr (.inl (vp_updL fG (Int32.toNatClampNeg z_42) (Int32.toInt64 n0))))))) H := by rw [← va_pls hD9 fs3_1.1 hk_44 _]; exact hP
                  have hD : va_D A (va_pl L (va_up f_32 s3_1 (.inl (kJ, 108800, .inr (.inl (vp_updL fG (Int32.toNatClampNeg z_42) (Int32.toInt64 n0))))))) := by rw [← va_pls hD9 fs3_1.1 hk_44 _]; exact hD
                  have hPI := hPI.put (e := .inl (kJ, 108800, .inr (.inl (vp_updL fG (Int32.toNatClampNeg z_42) (Int32.toInt64 n0))))) fs3_1 ⟨_, rfl, fw_44⟩
                  have es_f_45 : va_up f_32 s3_1 (.inl (kJ, 108800, .inr (.inl (vp_updL fG (Int32.toNatClampNeg z_42) (Int32.toInt64 n0))))) s3_1 = .inl (kJ, 108800, .inr (.inl (vp_updL fG (Int32.toNatClampNeg z_42) (Int32.toInt64 n0)))) := va_up_self _ _ _
                  have eq_46 := (va_up_ne f_32 (.inl (kJ, 108800, .inr (.inl (vp_updL fG (Int32.toNatClampNeg z_42) (Int32.toInt64 n0))))) (isr_ne hg0 fs3_1 (by decide))).trans eq_33
                  have eq_47 := (va_up_ne f_32 (.inl (kJ, 108800, .inr (.inl (vp_updL fG (Int32.toNatClampNeg z_42) (Int32.toInt64 n0))))) (isr_ne fs1_1 fs3_1 (by decide))).trans eq_34
                  have eq_48 := (va_up_ne f_32 (.inl (kJ, 108800, .inr (.inl (vp_updL fG (Int32.toNatClampNeg z_42) (Int32.toInt64 n0))))) (isr_ne fs2_1 fs3_1 (by decide))).trans eq_35
                  have eq_49 := (va_up_ne f_32 (.inl (kJ, 108800, .inr (.inl (vp_updL fG (Int32.toNatClampNeg z_42) (Int32.toInt64 n0))))) (isr_ne fs6_1 fs3_1 (by decide))).trans eq_37
                  have eq_50 := (va_up_ne f_32 (.inl (kJ, 108800, .inr (.inl (vp_updL fG (Int32.toNatClampNeg z_42) (Int32.toInt64 n0))))) (isr_ne fs4_1 fs3_1 (by decide))).trans es_f_32
                  have hfr := fr_up (S := (sK [12, 13, 14, 16])) (e := .inl (kJ, 108800, .inr (.inl (vp_updL fG (Int32.toNatClampNeg z_42) (Int32.toInt64 n0))))) hfr fs3_1 (by decide)
                  generalize va_up f_32 s3_1 (.inl (kJ, 108800, .inr (.inl (vp_updL fG (Int32.toNatClampNeg z_42) (Int32.toInt64 n0))))) = f_45 at hP hD hPI es_f_45 eq_46 eq_47 eq_48 eq_49 eq_50 hfr
                  refine lv_iload_n hx hb dX3_born_119 rfl (lv_at hl 1 rfl) ?_
                  subst eQ
                  exact W.iret (v := i3) hx hb hr (fun t ht hW => ⟨⟨i3, (), rfl, ⟨hLF, by omega, by omega⟩, f_45, hPI, ⟨(FR.tr hfrE34 hfr (fun _ h => h)), _, _, hLF, ZV.mk hU fs6_1 eq_49, SV.mk hU fs1_1 fs2_1 fs3_1 eq_47 eq_48 es_f_45, bg_plain (w := z_42) (i := 16) (hBG) (by omega) (by constructor <;> omega) (by omega) (by omega)⟩, by rw [ht]; exact hP, hD⟩, hS.F ht⟩) hS.2.2 dX3_born_120
              · have c_38 := congrArg Int32.toInt c_38
                refine lv_aload_n hx hb dX3_born_86 rfl (lv_at hl 2 rfl) ?_
                obtain ⟨k_51, hk_51⟩ := va_plg hg0.1 eq_33
                refine va_get (D := (dC, dI)) (ci := 3) (v := .ref s3_1) (C := RX3) (T := TX3) (N := 23) hx hb hts iX3_ hown hK hP k_51 hk_51 rfl 2 (by decide) (hts (.fieldLink RX3 17 "FieldLeavesModel" "field" "[J") (by decide +kernel)) (fun _ h9 => h9) rfl dX3_born_87 ?_
                refine lv_bipush (v := 17) hx hb dX3_born_90 (by decide) ?_
                refine lv_iload_n hx hb dX3_born_92 rfl (lv_at hl 1 rfl) ?_
                refine lv_imul hx hb dX3_born_93 ?_
                refine lv_topi (fun z_52 ez_52 => ?_)
                have kz_52 := mul17 ez_52 (by omega) (by omega)
                refine lv_bipush (v := 13) hx hb dX3_born_94 (by decide) ?_
                refine lv_iadd hx hb dX3_born_96 ?_
                refine lv_topi (fun z_53 ez_53 => ?_)
                have kz_53 := add_toInt ez_53 (by omega) (by omega)
                refine lv_iload_n hx hb dX3_born_97 rfl (lv_at hl 4 rfl) ?_
                refine lv_i2l (v := Int32.toInt64 n0) hx hb dX3_born_98 rfl ?_
                have k_z_54 := Int32.toInt_toInt64 n0
                obtain ⟨k_55, hk_55⟩ := va_plg fs3_1.1 eq_36
                have h_55 : vp_in z_53 108800 := (vp_in_iff.mpr (by constructor <;> omega))
                have fw_55 := rgF.plain fg_27 (o := i3) (f := 13) (w := z_53) (v := (Int32.toInt64 n0)) (by constructor <;> omega) (by omega) (by omega)
                have hD9 := hD
                refine va_last hx hb hK hP hD hS k_55 1 hk_55 rfl h_55 dX3_born_99 (fun H locs hP hD hS => ?_)
                have hP : va_P (dC, dI) vwCl (va_pl L (va_up f_32 s3_1 (.inl (kJ, 108800, .inr (.inl (vp_updL fG (Int32.toNatClampNeg z_53) (Int32.toInt64 n0))))))) H := by rw [← va_pls hD9 fs3_1.1 hk_55 _]; exact hP
                have hD : va_D A (va_pl L (va_up f_32 s3_1 (.inl (kJ, 108800, .inr (.inl (vp_updL fG (Int32.toNatClampNeg z_53) (Int32.toInt64 n0))))))) := by rw [← va_pls hD9 fs3_1.1 hk_55 _]; exact hD
                have hPI := hPI.put (e := .inl (kJ, 108800, .inr (.inl (vp_updL fG (Int32.toNatClampNeg z_53) (Int32.toInt64 n0))))) fs3_1 ⟨_, rfl, fw_55⟩
                have es_f_56 : va_up f_32 s3_1 (.inl (kJ, 108800, .inr (.inl (vp_updL fG (Int32.toNatClampNeg z_53) (Int32.toInt64 n0))))) s3_1 = .inl (kJ, 108800, .inr (.inl (vp_updL fG (Int32.toNatClampNeg z_53) (Int32.toInt64 n0)))) := va_up_self _ _ _
                have eq_57 := (va_up_ne f_32 (.inl (kJ, 108800, .inr (.inl (vp_updL fG (Int32.toNatClampNeg z_53) (Int32.toInt64 n0))))) (isr_ne hg0 fs3_1 (by decide))).trans eq_33
                have eq_58 := (va_up_ne f_32 (.inl (kJ, 108800, .inr (.inl (vp_updL fG (Int32.toNatClampNeg z_53) (Int32.toInt64 n0))))) (isr_ne fs1_1 fs3_1 (by decide))).trans eq_34
                have eq_59 := (va_up_ne f_32 (.inl (kJ, 108800, .inr (.inl (vp_updL fG (Int32.toNatClampNeg z_53) (Int32.toInt64 n0))))) (isr_ne fs2_1 fs3_1 (by decide))).trans eq_35
                have eq_60 := (va_up_ne f_32 (.inl (kJ, 108800, .inr (.inl (vp_updL fG (Int32.toNatClampNeg z_53) (Int32.toInt64 n0))))) (isr_ne fs6_1 fs3_1 (by decide))).trans eq_37
                have eq_61 := (va_up_ne f_32 (.inl (kJ, 108800, .inr (.inl (vp_updL fG (Int32.toNatClampNeg z_53) (Int32.toInt64 n0))))) (isr_ne fs4_1 fs3_1 (by decide))).trans es_f_32
                have hfr := fr_up (S := (sK [12, 13, 14, 16])) (e := .inl (kJ, 108800, .inr (.inl (vp_updL fG (Int32.toNatClampNeg z_53) (Int32.toInt64 n0))))) hfr fs3_1 (by decide)
                generalize va_up f_32 s3_1 (.inl (kJ, 108800, .inr (.inl (vp_updL fG (Int32.toNatClampNeg z_53) (Int32.toInt64 n0))))) = f_56 at hP hD hPI es_f_56 eq_57 eq_58 eq_59 eq_60 eq_61 hfr
                refine lv_iload_n hx hb dX3_born_100 rfl (lv_at hl 3 rfl) ?_
                refine lv_iconst (v := 4) hx hb dX3_born_101 (by decide) ?_
                refine lv_icmp_ne (tgt := 119) hx hb dX3_born_102 (by decide) (fun c_62 => ?_) (fun c_62 => ?_)
                · have c_62 := mt Int32.toInt_inj.mp c_62
                  refine lv_iload_n hx hb dX3_born_119 rfl (lv_at hl 1 rfl) ?_
                  subst eQ
                  exact W.iret (v := i3) hx hb hr (fun t ht hW => ⟨⟨i3, (), rfl, ⟨hLF, by omega, by omega⟩, f_56, hPI, ⟨(FR.tr hfrE34 hfr (fun _ h => h)), _, _, hLF, ZV.mk hU fs6_1 eq_60, SV.mk hU fs1_1 fs2_1 fs3_1 eq_58 eq_59 es_f_56, bg_plain (w := z_53) (i := 13) (hBG) (by omega) (by constructor <;> omega) (by omega) (by omega)⟩, by rw [ht]; exact hP, hD⟩, hS.F ht⟩) hS.2.2 dX3_born_120
                · have c_62 := congrArg Int32.toInt c_62
                  refine lv_aload_n hx hb dX3_born_105 rfl (lv_at hl 2 rfl) ?_
                  obtain ⟨k_63, hk_63⟩ := va_plg hg0.1 eq_57
                  refine va_get (D := (dC, dI)) (ci := 3) (v := .ref s3_1) (C := RX3) (T := TX3) (N := 23) hx hb hts iX3_ hown hK hP k_63 hk_63 rfl 2 (by decide) (hts (.fieldLink RX3 17 "FieldLeavesModel" "field" "[J") (by decide +kernel)) (fun _ h9 => h9) rfl dX3_born_106 ?_
                  refine lv_bipush (v := 17) hx hb dX3_born_109 (by decide) ?_
                  refine lv_iload_n hx hb dX3_born_111 rfl (lv_at hl 1 rfl) ?_
                  refine lv_imul hx hb dX3_born_112 ?_
                  refine lv_topi (fun z_64 ez_64 => ?_)
                  have kz_64 := mul17 ez_64 (by omega) (by omega)
                  refine lv_bipush (v := 16) hx hb dX3_born_113 (by decide) ?_
                  refine lv_iadd hx hb dX3_born_115 ?_
                  refine lv_topi (fun z_65 ez_65 => ?_)
                  have kz_65 := add_toInt ez_65 (by omega) (by omega)
                  refine lv_iload_n hx hb dX3_born_116 rfl (lv_at hl 4 rfl) ?_
                  refine lv_i2l (v := Int32.toInt64 n0) hx hb dX3_born_117 rfl ?_
                  have k_z_66 := Int32.toInt_toInt64 n0
                  obtain ⟨k_67, hk_67⟩ := va_plg fs3_1.1 es_f_56
                  have h_67 : vp_in z_65 108800 := (vp_in_iff.mpr (by constructor <;> omega))
                  have fw_67 := rgF.plain fw_55 (o := i3) (f := 16) (w := z_65) (v := (Int32.toInt64 n0)) (by constructor <;> omega) (by omega) (by omega)
                  have hD9 := hD
                  refine va_last hx hb hK hP hD hS k_67 1 hk_67 rfl h_67 dX3_born_118 (fun H locs hP hD hS => ?_)
                  have hP : va_P (dC, dI) vwCl (va_pl L (va_up f_56 s3_1 (.inl (kJ, 108800, .inr (.inl (vp_updL (vp_updL fG (Int32.toNatClampNeg z_53) (Int32.toInt64 n0)) (Int32.toNatClampNeg z_65) (Int32.toInt64 n0))))))) H := by rw [← va_pls hD9 fs3_1.1 hk_67 _]; exact hP
                  have hD : va_D A (va_pl L (va_up f_56 s3_1 (.inl (kJ, 108800, .inr (.inl (vp_updL (vp_updL fG (Int32.toNatClampNeg z_53) (Int32.toInt64 n0)) (Int32.toNatClampNeg z_65) (Int32.toInt64 n0))))))) := by rw [← va_pls hD9 fs3_1.1 hk_67 _]; exact hD
                  have hPI := hPI.put (e := .inl (kJ, 108800, .inr (.inl (vp_updL (vp_updL fG (Int32.toNatClampNeg z_53) (Int32.toInt64 n0)) (Int32.toNatClampNeg z_65) (Int32.toInt64 n0))))) fs3_1 ⟨_, rfl, fw_67⟩
                  have es_f_68 : va_up f_56 s3_1 (.inl (kJ, 108800, .inr (.inl (vp_updL (vp_updL fG (Int32.toNatClampNeg z_53) (Int32.toInt64 n0)) (Int32.toNatClampNeg z_65) (Int32.toInt64 n0))))) s3_1 = .inl (kJ, 108800, .inr (.inl (vp_updL (vp_updL fG (Int32.toNatClampNeg z_53) (Int32.toInt64 n0)) (Int32.toNatClampNeg z_65) (Int32.toInt64 n0)))) := va_up_self _ _ _
                  have eq_69 := (va_up_ne f_56 (.inl (kJ, 108800, .inr (.inl (vp_updL (vp_updL fG (Int32.toNatClampNeg z_53) (Int32.toInt64 n0)) (Int32.toNatClampNeg z_65) (Int32.toInt64 n0))))) (isr_ne hg0 fs3_1 (by decide))).trans eq_57
                  have eq_70 := (va_up_ne f_56 (.inl (kJ, 108800, .inr (.inl (vp_updL (vp_updL fG (Int32.toNatClampNeg z_53) (Int32.toInt64 n0)) (Int32.toNatClampNeg z_65) (Int32.toInt64 n0))))) (isr_ne fs1_1 fs3_1 (by decide))).trans eq_58
                  have eq_71 := (va_up_ne f_56 (.inl (kJ, 108800, .inr (.inl (vp_updL (vp_updL fG (Int32.toNatClampNeg z_53) (Int32.toInt64 n0)) (Int32.toNatClampNeg z_65) (Int32.toInt64 n0))))) (isr_ne fs2_1 fs3_1 (by decide))).trans eq_59
                  have eq_72 := (va_up_ne f_56 (.inl (kJ, 108800, .inr (.inl (vp_updL (vp_updL fG (Int32.toNatClampNeg z_53) (Int32.toInt64 n0)) (Int32.toNatClampNeg z_65) (Int32.toInt64 n0))))) (isr_ne fs6_1 fs3_1 (by decide))).trans eq_60
                  have eq_73 := (va_up_ne f_56 (.inl (kJ, 108800, .inr (.inl (vp_updL (vp_updL fG (Int32.toNatClampNeg z_53) (Int32.toInt64 n0)) (Int32.toNatClampNeg z_65) (Int32.toInt64 n0))))) (isr_ne fs4_1 fs3_1 (by decide))).trans eq_61
                  have hfr := fr_up (S := (sK [12, 13, 14, 16])) (e := .inl (kJ, 108800, .inr (.inl (vp_updL (vp_updL fG (Int32.toNatClampNeg z_53) (Int32.toInt64 n0)) (Int32.toNatClampNeg z_65) (Int32.toInt64 n0))))) hfr fs3_1 (by decide)
                  generalize va_up f_56 s3_1 (.inl (kJ, 108800, .inr (.inl (vp_updL (vp_updL fG (Int32.toNatClampNeg z_53) (Int32.toInt64 n0)) (Int32.toNatClampNeg z_65) (Int32.toInt64 n0))))) = f_68 at hP hD hPI es_f_68 eq_69 eq_70 eq_71 eq_72 eq_73 hfr
                  refine lv_iload_n hx hb dX3_born_119 rfl (lv_at hl 1 rfl) ?_
                  subst eQ
                  exact W.iret (v := i3) hx hb hr (fun t ht hW => ⟨⟨i3, (), rfl, ⟨hLF, by omega, by omega⟩, f_68, hPI, ⟨(FR.tr hfrE34 hfr (fun _ h => h)), _, _, hLF, ZV.mk hU fs6_1 eq_72, SV.mk hU fs1_1 fs2_1 fs3_1 eq_70 eq_71 es_f_68, bg_plain (w := z_65) (i := 16) (bg_plain (w := z_53) (i := 13) (hBG) (by omega) (by constructor <;> omega) (by omega) (by omega)) (by omega) (by constructor <;> omega) (by omega) (by omega)⟩, by rw [ht]; exact hP, hD⟩, hS.F ht⟩) hS.2.2 dX3_born_120
            · have c_29 := mt Int32.le_iff_toInt_le.mpr c_29
              refine lv_aload_n hx hb dX3_born_41 rfl (lv_at hl 2 rfl) ?_
              obtain ⟨k_74, hk_74⟩ := va_plg hg0.1 eq_23
              refine va_get (D := (dC, dI)) (ci := 3) (v := .ref s3_1) (C := RX3) (T := TX3) (N := 23) hx hb hts iX3_ hown hK hP k_74 hk_74 rfl 2 (by decide) (hts (.fieldLink RX3 17 "FieldLeavesModel" "field" "[J") (by decide +kernel)) (fun _ h9 => h9) rfl dX3_born_42 ?_
              refine lv_bipush (v := 17) hx hb dX3_born_45 (by decide) ?_
              refine lv_iload_n hx hb dX3_born_47 rfl (lv_at hl 1 rfl) ?_
              refine lv_imul hx hb dX3_born_48 ?_
              refine lv_topi (fun z_75 ez_75 => ?_)
              have kz_75 := mul17 ez_75 (by omega) (by omega)
              refine lv_iload hx hb dX3_born_49 (lv_at hl 0 rfl) ?_
              refine lv_iadd hx hb dX3_born_51 ?_
              refine lv_topi (fun z_76 ez_76 => ?_)
              have kz_76 := add_toInt ez_76 (by omega) (by omega)
              refine lv_iload hx hb dX3_born_52 (lv_at hl 0 rfl) ?_
              refine va_calli (va_runS (As := [.int i4]) (rest := [.int z_76, .ref s3_1]) ⟨hx, hb, hml, hown, hts⟩ (c_X3_isLink l dC dI TT H.size i4) (va_cwS 1 hts gX3_born_X3_isLink rfl rfl rfl (by decide +kernel) ⟨Nat.le_of_ble_eq_true rfl, Nat.le_of_ble_eq_true rfl⟩) (pr_S (ws := []) (wA := []) (tys := []) vp_nil (hK.sub [] rfl) vd_nil hst hS (ro_free hS hA)) rfl rfl hl.1 rfl (lv_room (Nat.le_of_ble_eq_true rfl)) dX3_born_54 ⟨Nat.le_of_ble_eq_true rfl, Nat.le_of_ble_eq_true rfl⟩) hS (fun q _ h => (ro_free hS hA) q h) (ro_free hS hA) (fun r_77 u t H1 locs ht hvm hw hB hz1 hk1 hS => ?_)
              have hP := ro_keep hP hk1
              generalize H1 = H at hP hS ⊢
              rcases hw with ⟨rfl, hp_78⟩ | ⟨rfl, hp_78⟩
              · refine lv_if_eq (tgt := 66) hx hb dX3_born_57 (by decide) (fun c9 => absurd c9 (by decide)) (fun _ => ?_)
                refine lv_ldc2 hx hb hown (hts (.constantLong RX3 82 (-1)) (by decide +kernel)) dX3_born_60 ?_
                refine lv_goto (tgt := 67) hx hb dX3_born_63 (by decide) ?_
                obtain ⟨k_79, hk_79⟩ := va_plg fs3_1.1 eg_27
                have h_79 : vp_in z_76 108800 := (vp_in_iff.mpr (by constructor <;> omega))
                have fw_79 := rgF.link fg_27 (k := Int32.toNatClampNeg z_76) (v := (-1)) (by constructor <;> omega)
                have hD9 := hD
                refine va_last hx hb hK hP hD hS k_79 1 hk_79 rfl h_79 dX3_born_67 (fun H locs hP hD hS => ?_)
                have hP : va_P (dC, dI) vwCl (va_pl L (va_up fl34 s3_1 (.inl (kJ, 108800, .inr (.inl (vp_updL fG (Int32.toNatClampNeg z_76) (-1))))))) H := by rw [← va_pls hD9 fs3_1.1 hk_79 _]; exact hP
                have hD : va_D A (va_pl L (va_up fl34 s3_1 (.inl (kJ, 108800, .inr (.inl (vp_updL fG (Int32.toNatClampNeg z_76) (-1))))))) := by rw [← va_pls hD9 fs3_1.1 hk_79 _]; exact hD
                have hPI := hPI.put (e := .inl (kJ, 108800, .inr (.inl (vp_updL fG (Int32.toNatClampNeg z_76) (-1))))) fs3_1 ⟨_, rfl, fw_79⟩
                have es_f_80 : va_up fl34 s3_1 (.inl (kJ, 108800, .inr (.inl (vp_updL fG (Int32.toNatClampNeg z_76) (-1))))) s3_1 = .inl (kJ, 108800, .inr (.inl (vp_updL fG (Int32.toNatClampNeg z_76) (-1)))) := va_up_self _ _ _
                have eq_81 := (va_up_ne fl34 (.inl (kJ, 108800, .inr (.inl (vp_updL fG (Int32.toNatClampNeg z_76) (-1))))) (isr_ne hg0 fs3_1 (by decide))).trans eq_23
                have eq_82 := (va_up_ne fl34 (.inl (kJ, 108800, .inr (.inl (vp_updL fG (Int32.toNatClampNeg z_76) (-1))))) (isr_ne fs1_1 fs3_1 (by decide))).trans eg_25
                have eq_83 := (va_up_ne fl34 (.inl (kJ, 108800, .inr (.inl (vp_updL fG (Int32.toNatClampNeg z_76) (-1))))) (isr_ne fs2_1 fs3_1 (by decide))).trans eg_26
                have eq_84 := (va_up_ne fl34 (.inl (kJ, 108800, .inr (.inl (vp_updL fG (Int32.toNatClampNeg z_76) (-1))))) (isr_ne fs6_1 fs3_1 (by decide))).trans eg_28
                have hfr := fr_up (S := (sK [12, 13, 14, 16])) (e := .inl (kJ, 108800, .inr (.inl (vp_updL fG (Int32.toNatClampNeg z_76) (-1))))) hfr fs3_1 (by decide)
                generalize va_up fl34 s3_1 (.inl (kJ, 108800, .inr (.inl (vp_updL fG (Int32.toNatClampNeg z_76) (-1))))) = f_80 at hP hD hPI es_f_80 eq_81 eq_82 eq_83 eq_84 hfr
                obtain ⟨i_85, ei_85⟩ : ∃ y : Int32, y = i4 + 1 := ⟨_, rfl⟩
                refine lv_iinc (v := i_85) (lv' := [(4, .int i_85), (3, .int i3), (0, .ref g0), (1, .int c0), (2, .int n0)]) hx hb dX3_born_68 hl (k := 0) rfl (by rw [ei_85]; rfl) (by decide) rfl (fun ls hl => ?_)
                have ki_85 := inc_toInt ei_85 (by omega)
                refine lv_goto (tgt := 34) hx hb dX3_born_71 (by decide) ?_
                exact ih_34 i_85 f_80 _ _ _  (by omega) (by omega) ⟨hfr, ⟨_, SV.mk hU fs1_1 fs2_1 fs3_1 eq_82 eq_83 es_f_80, ZV.mk hU fs6_1 eq_84, by rw [ki_85]; exact bg_step (w := z_76) hBG (by omega) (by constructor <;> omega) (by omega) (by omega)⟩⟩ hPI hP hD hS (lv_sub hl [0, 1, 2, 3, 4] rfl)
              · refine lv_if_eq (tgt := 66) hx hb dX3_born_57 (by decide) (fun _ => ?_) (fun c9 => absurd c9 (by decide))
                refine lv_lconst (v := 0) hx hb dX3_born_66 (by decide) ?_
                obtain ⟨k_86, hk_86⟩ := va_plg fs3_1.1 eg_27
                have h_86 : vp_in z_76 108800 := (vp_in_iff.mpr (by constructor <;> omega))
                have fw_86 := rgF.link fg_27 (k := Int32.toNatClampNeg z_76) (v := 0) (by constructor <;> omega)
                have hD9 := hD
                refine va_last hx hb hK hP hD hS k_86 1 hk_86 rfl h_86 dX3_born_67 (fun H locs hP hD hS => ?_)
                have hP : va_P (dC, dI) vwCl (va_pl L (va_up fl34 s3_1 (.inl (kJ, 108800, .inr (.inl (vp_updL fG (Int32.toNatClampNeg z_76) 0)))))) H := by rw [← va_pls hD9 fs3_1.1 hk_86 _]; exact hP
                have hD : va_D A (va_pl L (va_up fl34 s3_1 (.inl (kJ, 108800, .inr (.inl (vp_updL fG (Int32.toNatClampNeg z_76) 0)))))) := by rw [← va_pls hD9 fs3_1.1 hk_86 _]; exact hD
                have hPI := hPI.put (e := .inl (kJ, 108800, .inr (.inl (vp_updL fG (Int32.toNatClampNeg z_76) 0)))) fs3_1 ⟨_, rfl, fw_86⟩
                have es_f_87 : va_up fl34 s3_1 (.inl (kJ, 108800, .inr (.inl (vp_updL fG (Int32.toNatClampNeg z_76) 0)))) s3_1 = .inl (kJ, 108800, .inr (.inl (vp_updL fG (Int32.toNatClampNeg z_76) 0))) := va_up_self _ _ _
                have eq_88 := (va_up_ne fl34 (.inl (kJ, 108800, .inr (.inl (vp_updL fG (Int32.toNatClampNeg z_76) 0)))) (isr_ne hg0 fs3_1 (by decide))).trans eq_23
                have eq_89 := (va_up_ne fl34 (.inl (kJ, 108800, .inr (.inl (vp_updL fG (Int32.toNatClampNeg z_76) 0)))) (isr_ne fs1_1 fs3_1 (by decide))).trans eg_25
                have eq_90 := (va_up_ne fl34 (.inl (kJ, 108800, .inr (.inl (vp_updL fG (Int32.toNatClampNeg z_76) 0)))) (isr_ne fs2_1 fs3_1 (by decide))).trans eg_26
                have eq_91 := (va_up_ne fl34 (.inl (kJ, 108800, .inr (.inl (vp_updL fG (Int32.toNatClampNeg z_76) 0)))) (isr_ne fs6_1 fs3_1 (by decide))).trans eg_28
                have hfr := fr_up (S := (sK [12, 13, 14, 16])) (e := .inl (kJ, 108800, .inr (.inl (vp_updL fG (Int32.toNatClampNeg z_76) 0)))) hfr fs3_1 (by decide)
                generalize va_up fl34 s3_1 (.inl (kJ, 108800, .inr (.inl (vp_updL fG (Int32.toNatClampNeg z_76) 0)))) = f_87 at hP hD hPI es_f_87 eq_88 eq_89 eq_90 eq_91 hfr
                obtain ⟨i_92, ei_92⟩ : ∃ y : Int32, y = i4 + 1 := ⟨_, rfl⟩
                refine lv_iinc (v := i_92) (lv' := [(4, .int i_92), (3, .int i3), (0, .ref g0), (1, .int c0), (2, .int n0)]) hx hb dX3_born_68 hl (k := 0) rfl (by rw [ei_92]; rfl) (by decide) rfl (fun ls hl => ?_)
                have ki_92 := inc_toInt ei_92 (by omega)
                refine lv_goto (tgt := 34) hx hb dX3_born_71 (by decide) ?_
                exact ih_34 i_92 f_87 _ _ _  (by omega) (by omega) ⟨hfr, ⟨_, SV.mk hU fs1_1 fs2_1 fs3_1 eq_89 eq_90 es_f_87, ZV.mk hU fs6_1 eq_91, by rw [ki_92]; exact bg_step (w := z_76) hBG (by omega) (by constructor <;> omega) (by omega) (by omega)⟩⟩ hPI hP hD hS (lv_sub hl [0, 1, 2, 3, 4] rfl)
        exact loop_34 18 0 f_18 _ _ _  (by omega) (by omega) ⟨FR.rf, ⟨fF, SV.mk hU fs1_1 fs2_1 fs3_1 eq_20 es_f_18 eq_21, ZV.mk hU fs6_1 eq_22, by rw [k0_]; exact bg_0⟩⟩ hPI hP hD hS hl
      · have c_8 := mt Int32.toInt_inj.mp c_8
        obtain ⟨i_93, ei_93⟩ : ∃ y : Int32, y = i3 + 1 := ⟨_, rfl⟩
        refine lv_iinc (v := i_93) (lv' := [(3, .int i_93), (0, .ref g0), (1, .int c0), (2, .int n0)]) hx hb dX3_born_11 hl (k := 0) rfl (by rw [ei_93]; rfl) (by decide) rfl (fun ls hl => ?_)
        have ki_93 := inc_toInt ei_93 (by omega)
        refine lv_goto (tgt := 2) hx hb dX3_born_14 (by decide) ?_
        exact ih_2 i_93 f _ _ _  (by omega) (by omega) ⟨rfl, (lf_step hzz (by omega) (z_ne ez_7 (by omega)) ki_93)⟩ hPI hP hD hS (lv_sub hl [0, 1, 2, 3] rfl)
  exact loop_2 6401 0 f _ _ _  (by omega) (by omega) ⟨rfl, (fun j h9 => absurd h9 (by omega))⟩ hPI hP hD hS hl
