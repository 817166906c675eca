theorem bv_is {i : Int32} {v : Int64} (h0 : 0 ≤ i.toInt) (h : ((i.toInt = 8 ∨ i.toInt = 11 ∨ i.toInt = 15) ∧ v = -1) ∨ (¬ (i.toInt = 8 ∨ i.toInt = 11 ∨ i.toInt = 15) ∧ v = 0)) : v = if Int32.toNatClampNeg i = 8 ∨ Int32.toNatClampNeg i = 11 ∨ Int32.toNatClampNeg i = 15 then -1 else 0 := by
  have hc := clamp_int h0
  rcases h with ⟨h1, h2⟩ | ⟨h1, h2⟩
  · rw [if_pos (by omega)]; exact h2
  · rw [if_neg (by omega)]; exact h2
set_option maxRecDepth 20000 in
theorem in_v_X3_born_X3 : ∀ w ∈ u_ws RX3 TX3 23, w ∈ wsX3_born := by decide +kernel
set_option maxRecDepth 100000 in
set_option maxHeartbeats 4000000 in
theorem v_X3_born (l : Launch) (dC : Nat → ClassId) (dI : Nat → Nat → Nat) (TT : Nat × Nat × Nat) (sz : Nat) (kI kJ kZ : ClassId) (K : Nat → Nat) (L : List Nat) (f : Nat → va_E) (hPI : PR kI kJ kZ K L f) (g0 : Nat) (hg0 : isr K L 10 g0) (c0 n0 : Int32) (hU : UN K L) (fS fC : Nat → Int32) (fF : Nat → Int64) (fR fW lo ld : Nat → Int32) (lv : Nat → Int64) (lm pa : Int32) (hRV : RV kI kJ K L f g0 fS fC fF fR fW lo ld lv lm pa) (z : Nat → Int32) (hZV : ZV kZ K L f z) (hcz : cnt z 6400 < 6400) : Met l yX3_born wsX3_born ({ frames := 1, cells := 0, slots := 0, locals := 20 } : Room) (va_Pc [.ref g0, .int c0, .int n0] (pr dC dI (va_pl L f) (va_pl L f) [(kI, .int), (kJ, .long), (kZ, .boolean)] sz TT)) (va_Qi (fun (r : Int32) (u : Unit) => LF z (Int32.toNatClampNeg r) ∧ 0 ≤ r.toInt ∧ r.toInt < 6400) (fun (_ : Unit) t => ∃ f2 : Nat → va_E, PR kI kJ kZ K L f2 ∧ (FR (sK [12, 13, 14, 16]) K L f f2 ∧ ∃ o : Nat, LF z o ∧ ZV kZ K L f2 (upd z o (vp_nar .boolean 1)) ∧ RV kI kJ K L f2 g0 fS (upd fC o c0) (bnF fF o c0 n0) (upd fR o (-1)) fW lo ld lv lm pa) ∧ va_P (dC, dI) vwCl (va_pl L f2) t.heap ∧ va_D (va_A (va_pl L f) sz) (va_pl L f2)) (va_A (va_pl L f) sz)) 0 0 (va_A (va_pl L f) sz) := by
  refine Met.ofW (cc := cX3_born) (maxL := 5) (ret := (some .int)) (by decide) rfl ?_
  intro p e s m args below meth c s₁ B hml hv
  obtain ⟨rfl, hsz, hP, hK, hD0, hst⟩ := hv
  have hx := B.exec
  have hb := B.bytes
  have hr := B.returns
  have hts := atoms_spec (ws := wsX3_born) B.pre
  have hown : s.vm.findClass RX3 = some m.cls := findClass_of_methodNamed B.named
  have hlocks := B.notSynchronized
  have iX3_ := in_v_X3_born_X3
  subst hsz
  have hD := hD0.self (sz := s.heap.size)
  generalize hAe : va_A (va_pl L f) s.heap.size = A at hD hst ⊢
  have hA : ∀ q : Nat, s.heap.size ≤ q → A q := fun q h => by rw [← hAe]; exact Or.inr h
  have hS : va_S A s.heap s.heap [] := va_S.rf
  have hl := lv_entry ([.ref g0, .int c0, .int n0]) (n := 5) (Nat.le_of_ble_eq_true rfl)
  rw [lg_entry_eq]
  generalize (lg_sl ([.ref g0, .int c0, .int n0]) ++ List.replicate (5 - (lg_sl ([.ref g0, .int c0, .int n0])).length) Slot.unset).toArray = ls at hl ⊢
  have hl : lv_has ls 5 [(0, .ref g0), (1, .int c0), (2, .int n0)] := hl
  have km1_ : Int32.toInt (-1) = -1 := by decide
  have k0_ : Int32.toInt 0 = 0 := by decide
  have k1_ : Int32.toInt 1 = 1 := by decide
  have k2_ : Int32.toInt 2 = 2 := by decide
  have k4_ : Int32.toInt 4 = 4 := by decide
  have k13_ : Int32.toInt 13 = 13 := by decide
  have k16_ : Int32.toInt 16 = 16 := by decide
  have k17_ : Int32.toInt 17 = 17 := by decide
  have klm1_ : Int64.toInt (-1) = -1 := by decide
  have kl0_ : Int64.toInt 0 = 0 := by decide
  have hfr : FR (sK [12, 13, 14, 16]) K L f f := FR.rf
  have cl_0 : Int32.toNatClampNeg 0 = 0 := by decide
  refine W_nameQ (fun Q0 eQ => ?_)
  (refine hPI.a10E hg0 ?_; intro s1_1 s2_1 s3_1 s4_1 s5_1 s6_1 s7_1 pa_1 lm_1 s8_1 s9_1 s10_1 fm_1 s11_1 nm_1 s12_1 s13_1 s14_1 rm_1 s15_1 s16_1 s17_1 s18_1 e_1 fs1_1 fs2_1 fs3_1 fs4_1 fs5_1 fs6_1 fs7_1 flm_1 fs8_1 fs9_1 fs10_1 ffm_1 fs11_1 fnm_1 fs12_1 fs13_1 fs14_1 frm_1 fs15_1 fs16_1 fs17_1 fs18_1)
  obtain ⟨k_1, hk_1⟩ := va_plg hg0.1 e_1
  have eg11 := hRV.1.1 s1_1 fs1_1
  have fg11 := (hPI.a11 fs1_1).of eg11
  have eg12 := hRV.1.2.1 s2_1 fs2_1
  have fg12 := (hPI.a12 fs2_1).of eg12
  have eg13 := hRV.1.2.2 s3_1 fs3_1
  have fg13 := (hPI.a13 fs3_1).of eg13
  have eg14 := hRV.2.1.1 s4_1 fs4_1
  have fg14 := (hPI.a14 fs4_1).of eg14
  have eg15 := hRV.2.1.2 s5_1 fs5_1
  have fg15 := (hPI.a15 fs5_1).of eg15
  have eg18 := hRV.2.2.1.1 s8_1 fs8_1
  have fg18 := (hPI.a18 fs8_1).of eg18
  have eg19 := hRV.2.2.1.2.1 s9_1 fs9_1
  have fg19 := (hPI.a19 fs9_1).of eg19
  have eg20 := hRV.2.2.1.2.2 s10_1 fs10_1
  have fg20 := (hPI.a20 fs10_1).of eg20
  obtain rfl : lm_1 = lm := (show cI (f g0) 8 = _ from by rw [e_1]; rfl).symm.trans hRV.2.2.2.1
  obtain rfl : pa_1 = pa := (show cI (f g0) 7 = _ from by rw [e_1]; rfl).symm.trans hRV.2.2.2.2
  have eg_2 := hZV s6_1 fs6_1
  have fg_2 := (hPI.a16 fs6_1).of eg_2
  refine lv_iconst (v := 0) hx hb dX3_born_0 (by decide) ?_
  refine lv_istore_n (lv' := [(3, .int 0), (0, .ref g0), (1, .int c0), (2, .int n0)]) hx hb dX3_born_1 rfl hl (by decide) rfl (fun ls hl => ?_)
  have loop_2 : ∀ (n : Nat) (i3 : Int32)   (fl : Nat → va_E) (H : Heap) (locs : List Loc) (ls : Array Slot), (0 ≤ i3.toInt ∧ i3.toInt ≤ 6400) → (6400 - i3.toInt).toNat < n → (f = fl ∧ (∀ j : Nat, (j : Int) < i3.toInt → z j ≠ 0)) → PR kI kJ kZ K L fl → va_P (dC, dI) vwCl (va_pl L fl) H → va_D A (va_pl L fl) → va_S A s.heap H locs → lv_has ls 5 [(3, .int i3), (0, .ref g0), (1, .int c0), (2, .int n0)] → W p l e (headSpec wsX3_born ({ frames := 1, cells := 0, slots := 0, locals := 20 } : Room)).room s m (([.ref g0, .int c0, .int n0] : List Value).toArray) below meth c H locs 0 0 Q0 (F0 m 2 ls []) := by
    intro n
    induction n with
    | zero => intro i3 fl H locs ls  _ h9; exact absurd h9 (Nat.not_lt_zero _)
    | succ n ih_2 =>
      intro i3 fl H locs ls  hI hM hFN hPI hP hD hS hl
      obtain ⟨hff, hFN⟩ := hFN
      subst hff
      have hzz := hFN
      have hlt := lf_lt hzz hcz
      refine lv_aload_n hx hb dX3_born_2 rfl (lv_at hl 1 rfl) ?_
      obtain ⟨k_3, hk_3⟩ := va_plg hg0.1 e_1
      refine va_get (D := (dC, dI)) (ci := 3) (v := .ref s6_1) (C := RX3) (T := TX3) (N := 23) hx hb hts iX3_ hown hK hP k_3 hk_3 rfl 5 (by decide) (hts (.fieldLink RX3 28 "FieldLeavesModel" "isHeld" "[Z") (by decide +kernel)) (fun _ h9 => h9) rfl dX3_born_3 ?_
      refine lv_iload_n hx hb dX3_born_6 rfl (lv_at hl 0 rfl) ?_
      obtain ⟨k_4, hk_4⟩ := va_plg fs6_1.1 eg_2
      have h_4 : vp_in i3 6400 := (vp_in_iff.mpr (by constructor <;> omega))
      refine va_zald hx hb hK hP k_4 2 hk_4 rfl h_4 dX3_born_7 ?_
      refine lv_topi (fun z_4 ez_4 => ?_)
      have hdez_4 := congrArg Int32.toInt ez_4
      refine lv_if_eq (tgt := 17) hx hb dX3_born_8 (by decide) (fun c_5 => ?_) (fun c_5 => ?_)
      · have c_5 := congrArg Int32.toInt c_5
        have hLF := lf_mk hzz (by constructor <;> omega) (z_of ez_4 (by omega))
        refine lv_aload_n hx hb dX3_born_17 rfl (lv_at hl 1 rfl) ?_
        obtain ⟨k_6, hk_6⟩ := va_plg hg0.1 e_1
        refine va_get (D := (dC, dI)) (ci := 3) (v := .ref s6_1) (C := RX3) (T := TX3) (N := 23) hx hb hts iX3_ hown hK hP k_6 hk_6 rfl 5 (by decide) (hts (.fieldLink RX3 28 "FieldLeavesModel" "isHeld" "[Z") (by decide +kernel)) (fun _ h9 => h9) rfl dX3_born_18 ?_
        refine lv_iload_n hx hb dX3_born_21 rfl (lv_at hl 0 rfl) ?_
        refine lv_iconst (v := 1) hx hb dX3_born_22 (by decide) ?_
        obtain ⟨k_7, hk_7⟩ := va_plg fs6_1.1 eg_2
        have h_7 : vp_in i3 6400 := (vp_in_iff.mpr (by constructor <;> omega))
        have fw_7 := trivial
        have hD9 := hD
        refine va_zast hx hb hK hP hD hS k_7 2 hk_7 rfl h_7 dX3_born_23 (fun H locs hP hD hS => ?_)
        have hP : va_P (dC, dI) vwCl (va_pl L (va_up f s6_1 (.inl (kZ, 6400, .inl (upd z (Int32.toNatClampNeg i3) (vp_nar .boolean 1)))))) H := by rw [← va_pls hD9 fs6_1.1 hk_7 _]; exact hP
        have hD : va_D A (va_pl L (va_up f s6_1 (.inl (kZ, 6400, .inl (upd z (Int32.toNatClampNeg i3) (vp_nar .boolean 1)))))) := by rw [← va_pls hD9 fs6_1.1 hk_7 _]; exact hD
        have hPI := hPI.put (e := .inl (kZ, 6400, .inl (upd z (Int32.toNatClampNeg i3) (vp_nar .boolean 1)))) fs6_1 ⟨_, rfl, fw_7⟩
        have es_f_8 : va_up f s6_1 (.inl (kZ, 6400, .inl (upd z (Int32.toNatClampNeg i3) (vp_nar .boolean 1)))) s6_1 = .inl (kZ, 6400, .inl (upd z (Int32.toNatClampNeg i3) (vp_nar .boolean 1))) := va_up_self _ _ _
        have eq_9 := (va_up_ne f (.inl (kZ, 6400, .inl (upd z (Int32.toNatClampNeg i3) (vp_nar .boolean 1)))) (isr_ne hg0 fs6_1 (by decide))).trans e_1
        have eq_10 := (va_up_ne f (.inl (kZ, 6400, .inl (upd z (Int32.toNatClampNeg i3) (vp_nar .boolean 1)))) (isr_ne fs1_1 fs6_1 (by decide))).trans eg11
        have eq_11 := (va_up_ne f (.inl (kZ, 6400, .inl (upd z (Int32.toNatClampNeg i3) (vp_nar .boolean 1)))) (isr_ne fs2_1 fs6_1 (by decide))).trans eg12
        have eq_12 := (va_up_ne f (.inl (kZ, 6400, .inl (upd z (Int32.toNatClampNeg i3) (vp_nar .boolean 1)))) (isr_ne fs3_1 fs6_1 (by decide))).trans eg13
        have eq_13 := (va_up_ne f (.inl (kZ, 6400, .inl (upd z (Int32.toNatClampNeg i3) (vp_nar .boolean 1)))) (isr_ne fs4_1 fs6_1 (by decide))).trans eg14
        have eq_14 := (va_up_ne f (.inl (kZ, 6400, .inl (upd z (Int32.toNatClampNeg i3) (vp_nar .boolean 1)))) (isr_ne fs5_1 fs6_1 (by decide))).trans eg15
        have eq_15 := (va_up_ne f (.inl (kZ, 6400, .inl (upd z (Int32.toNatClampNeg i3) (vp_nar .boolean 1)))) (isr_ne fs8_1 fs6_1 (by decide))).trans eg18
        have eq_16 := (va_up_ne f (.inl (kZ, 6400, .inl (upd z (Int32.toNatClampNeg i3) (vp_nar .boolean 1)))) (isr_ne fs9_1 fs6_1 (by decide))).trans eg19
        have eq_17 := (va_up_ne f (.inl (kZ, 6400, .inl (upd z (Int32.toNatClampNeg i3) (vp_nar .boolean 1)))) (isr_ne fs10_1 fs6_1 (by decide))).trans eg20
        have hfr := fr_up (S := (sK [12, 13, 14, 16])) (e := .inl (kZ, 6400, .inl (upd z (Int32.toNatClampNeg i3) (vp_nar .boolean 1)))) hfr fs6_1 (by decide)
        generalize hg_f_8 : va_up f s6_1 (.inl (kZ, 6400, .inl (upd z (Int32.toNatClampNeg i3) (vp_nar .boolean 1)))) = f_8 at hP hD hPI es_f_8 eq_9 eq_10 eq_11 eq_12 eq_13 eq_14 eq_15 eq_16 eq_17 hfr
        refine lv_aload_n hx hb dX3_born_24 rfl (lv_at hl 1 rfl) ?_
        obtain ⟨k_18, hk_18⟩ := va_plg hg0.1 eq_9
        refine va_get (D := (dC, dI)) (ci := 3) (v := .ref s2_1) (C := RX3) (T := TX3) (N := 23) hx hb hts iX3_ hown hK hP k_18 hk_18 rfl 1 (by decide) (hts (.fieldLink RX3 13 "FieldLeavesModel" "classOf" "[I") (by decide +kernel)) (fun _ h9 => h9) rfl dX3_born_25 ?_
        refine lv_iload_n hx hb dX3_born_28 rfl (lv_at hl 0 rfl) ?_
        refine lv_iload_n hx hb dX3_born_29 rfl (lv_at hl 2 rfl) ?_
        obtain ⟨k_19, hk_19⟩ := va_plg fs2_1.1 eq_11
        have h_19 : vp_in i3 6400 := (vp_in_iff.mpr (by constructor <;> omega))
        have fw_19 := trivial
        have hD9 := hD
        refine va_iast hx hb hK hP hD hS k_19 0 hk_19 rfl h_19 dX3_born_30 (fun H locs hP hD hS => ?_)
        have hP : va_P (dC, dI) vwCl (va_pl L (va_up f_8 s2_1 (.inl (kI, 6400, .inl (upd fC (Int32.toNatClampNeg i3) c0))))) H := by rw [← va_pls hD9 fs2_1.1 hk_19 _]; exact hP
        have hD : va_D A (va_pl L (va_up f_8 s2_1 (.inl (kI, 6400, .inl (upd fC (Int32.toNatClampNeg i3) c0))))) := by rw [← va_pls hD9 fs2_1.1 hk_19 _]; exact hD
        have hPI := hPI.put (e := .inl (kI, 6400, .inl (upd fC (Int32.toNatClampNeg i3) c0))) fs2_1 ⟨_, rfl, fw_19⟩
        have es_f_20 : va_up f_8 s2_1 (.inl (kI, 6400, .inl (upd fC (Int32.toNatClampNeg i3) c0))) s2_1 = .inl (kI, 6400, .inl (upd fC (Int32.toNatClampNeg i3) c0)) := va_up_self _ _ _
        have eq_21 := (va_up_ne f_8 (.inl (kI, 6400, .inl (upd fC (Int32.toNatClampNeg i3) c0))) (isr_ne hg0 fs2_1 (by decide))).trans eq_9
        have eq_22 := (va_up_ne f_8 (.inl (kI, 6400, .inl (upd fC (Int32.toNatClampNeg i3) c0))) (isr_ne fs1_1 fs2_1 (by decide))).trans eq_10
        have eq_23 := (va_up_ne f_8 (.inl (kI, 6400, .inl (upd fC (Int32.toNatClampNeg i3) c0))) (isr_ne fs3_1 fs2_1 (by decide))).trans eq_12
        have eq_24 := (va_up_ne f_8 (.inl (kI, 6400, .inl (upd fC (Int32.toNatClampNeg i3) c0))) (isr_ne fs4_1 fs2_1 (by decide))).trans eq_13
        have eq_25 := (va_up_ne f_8 (.inl (kI, 6400, .inl (upd fC (Int32.toNatClampNeg i3) c0))) (isr_ne fs5_1 fs2_1 (by decide))).trans eq_14
        have eq_26 := (va_up_ne f_8 (.inl (kI, 6400, .inl (upd fC (Int32.toNatClampNeg i3) c0))) (isr_ne fs8_1 fs2_1 (by decide))).trans eq_15
        have eq_27 := (va_up_ne f_8 (.inl (kI, 6400, .inl (upd fC (Int32.toNatClampNeg i3) c0))) (isr_ne fs9_1 fs2_1 (by decide))).trans eq_16
        have eq_28 := (va_up_ne f_8 (.inl (kI, 6400, .inl (upd fC (Int32.toNatClampNeg i3) c0))) (isr_ne fs10_1 fs2_1 (by decide))).trans eq_17
        have eq_29 := (va_up_ne f_8 (.inl (kI, 6400, .inl (upd fC (Int32.toNatClampNeg i3) c0))) (isr_ne fs6_1 fs2_1 (by decide))).trans es_f_8
        have hfr := fr_up (S := (sK [12, 13, 14, 16])) (e := .inl (kI, 6400, .inl (upd fC (Int32.toNatClampNeg i3) c0))) hfr fs2_1 (by decide)
        generalize hg_f_20 : va_up f_8 s2_1 (.inl (kI, 6400, .inl (upd fC (Int32.toNatClampNeg i3) c0))) = f_20 at hP hD hPI es_f_20 eq_21 eq_22 eq_23 eq_24 eq_25 eq_26 eq_27 eq_28 eq_29 hfr
        refine lv_iconst (v := 0) hx hb dX3_born_31 (by decide) ?_
        refine lv_istore (lv' := [(4, .int 0), (3, .int i3), (0, .ref g0), (1, .int c0), (2, .int n0)]) hx hb dX3_born_32 hl (by decide) rfl (fun ls hl => ?_)
        have hfrE34 := hfr
        have loop_34 : ∀ (n : Nat) (i4 : Int32)   (fl34 : Nat → va_E) (H : Heap) (locs : List Loc) (ls : Array Slot), (0 ≤ i4.toInt ∧ i4.toInt ≤ 17) → (17 - i4.toInt).toNat < n → (FR (sK [12, 13, 14, 16]) K L f_20 fl34 ∧ (RV kI kJ K L fl34 g0 fS (upd fC (Int32.toNatClampNeg i3) c0) (bnK fF (Int32.toNatClampNeg i3) (Int32.toNatClampNeg i4)) fR fW lo ld lv lm_1 pa_1 ∧ ZV kZ K L fl34 (upd z (Int32.toNatClampNeg i3) (vp_nar .boolean 1)))) → PR kI kJ kZ K L fl34 → va_P (dC, dI) vwCl (va_pl L fl34) H → va_D A (va_pl L fl34) → va_S A s.heap H locs → lv_has ls 5 [(4, .int i4), (3, .int i3), (0, .ref g0), (1, .int c0), (2, .int n0)] → W p l e (headSpec wsX3_born ({ frames := 1, cells := 0, slots := 0, locals := 20 } : Room)).room s m (([.ref g0, .int c0, .int n0] : List Value).toArray) below meth c H locs 0 0 Q0 (F0 m 34 ls []) := by
          intro n
          induction n with
          | zero => intro i4 fl34 H locs ls  _ h9; exact absurd h9 (Nat.not_lt_zero _)
          | succ n ih_34 =>
            intro i4 fl34 H locs ls  hI hM hFN hPI hP hD hS hl
            obtain ⟨hfr, hFN⟩ := hFN
            have eq_30 := (hfr g0 hg0.1 (by rw [hg0.2]; rfl)).trans eq_21
            have eq_31 := (hfr s1_1 fs1_1.1 (by rw [fs1_1.2]; rfl)).trans eq_22
            have eq_32 := (hfr s5_1 fs5_1.1 (by rw [fs5_1.2]; rfl)).trans eq_25
            have eq_33 := (hfr s8_1 fs8_1.1 (by rw [fs8_1.2]; rfl)).trans eq_26
            have eq_34 := (hfr s9_1 fs9_1.1 (by rw [fs9_1.2]; rfl)).trans eq_27
            have eq_35 := (hfr s10_1 fs10_1.1 (by rw [fs10_1.2]; rfl)).trans eq_28
            obtain ⟨hRV9, hZV⟩ := hFN
            have eg_36 := hRV9.1.2.1 s2_1 fs2_1
            have fg_36 := (hPI.a12 fs2_1).of eg_36
            have eg_37 := hRV9.1.2.2 s3_1 fs3_1
            have fg_37 := (hPI.a13 fs3_1).of eg_37
            have eg_38 := hRV9.2.1.1 s4_1 fs4_1
            have fg_38 := (hPI.a14 fs4_1).of eg_38
            have eg_39 := hZV s6_1 fs6_1
            have fg_39 := (hPI.a16 fs6_1).of eg_39
            refine lv_iload hx hb dX3_born_34 (lv_at hl 0 rfl) ?_
            refine lv_bipush (v := 17) hx hb dX3_born_36 (by decide) ?_
            refine lv_icmp_ge (tgt := 74) hx hb dX3_born_38 (by decide) (fun c_40 => ?_) (fun c_40 => ?_)
            · have c_40 := Int32.le_iff_toInt_le.mp c_40
              have hq_17 := clamp_eq (i := i4) (n := 17) (by omega)
              rw [show Int32.toNatClampNeg 17 = 17 from by decide] at hq_17
              refine lv_aload_n hx hb dX3_born_74 rfl (lv_at hl 2 rfl) ?_
              obtain ⟨k_41, hk_41⟩ := va_plg hg0.1 eq_30
              refine va_get (D := (dC, dI)) (ci := 3) (v := .ref s4_1) (C := RX3) (T := TX3) (N := 23) hx hb hts iX3_ hown hK hP k_41 hk_41 rfl 3 (by decide) (hts (.fieldLink RX3 21 "FieldLeavesModel" "rowSize" "[I") (by decide +kernel)) (fun _ h9 => h9) rfl dX3_born_75 ?_
              refine lv_iload_n hx hb dX3_born_78 rfl (lv_at hl 1 rfl) ?_
              refine lv_iconst (v := (-1)) hx hb dX3_born_79 (by decide) ?_
              obtain ⟨k_42, hk_42⟩ := va_plg fs4_1.1 eg_38
              have h_42 : vp_in i3 6400 := (vp_in_iff.mpr (by constructor <;> omega))
              have fw_42 := updS (P := fun v => -1 ≤ v.toInt ∧ v.toInt ≤ 20) (k := Int32.toNatClampNeg i3) (v := (-1)) fg_38 (by omega)
              have hD9 := hD
              refine va_iast hx hb hK hP hD hS k_42 0 hk_42 rfl h_42 dX3_born_80 (fun H locs hP hD hS => ?_)
              have hP : va_P (dC, dI) vwCl (va_pl L (va_up fl34 s4_1 (.inl (kI, 6400, .inl (upd fR (Int32.toNatClampNeg i3) (-1)))))) H := by rw [← va_pls hD9 fs4_1.1 hk_42 _]; exact hP
              have hD : va_D A (va_pl L (va_up fl34 s4_1 (.inl (kI, 6400, .inl (upd fR (Int32.toNatClampNeg i3) (-1)))))) := by rw [← va_pls hD9 fs4_1.1 hk_42 _]; exact hD
              have hPI := hPI.put (e := .inl (kI, 6400, .inl (upd fR (Int32.toNatClampNeg i3) (-1)))) fs4_1 ⟨_, rfl, fw_42⟩
              have es_f_43 : va_up fl34 s4_1 (.inl (kI, 6400, .inl (upd fR (Int32.toNatClampNeg i3) (-1)))) s4_1 = .inl (kI, 6400, .inl (upd fR (Int32.toNatClampNeg i3) (-1))) := va_up_self _ _ _
              have eq_44 := (va_up_ne fl34 (.inl (kI, 6400, .inl (upd fR (Int32.toNatClampNeg i3) (-1)))) (isr_ne hg0 fs4_1 (by decide))).trans eq_30
              have eq_45 := (va_up_ne fl34 (.inl (kI, 6400, .inl (upd fR (Int32.toNatClampNeg i3) (-1)))) (isr_ne fs1_1 fs4_1 (by decide))).trans eq_31
              have eq_46 := (va_up_ne fl34 (.inl (kI, 6400, .inl (upd fR (Int32.toNatClampNeg i3) (-1)))) (isr_ne fs5_1 fs4_1 (by decide))).trans eq_32
              have eq_47 := (va_up_ne fl34 (.inl (kI, 6400, .inl (upd fR (Int32.toNatClampNeg i3) (-1)))) (isr_ne fs8_1 fs4_1 (by decide))).trans eq_33
              have eq_48 := (va_up_ne fl34 (.inl (kI, 6400, .inl (upd fR (Int32.toNatClampNeg i3) (-1)))) (isr_ne fs9_1 fs4_1 (by decide))).trans eq_34
              have eq_49 := (va_up_ne fl34 (.inl (kI, 6400, .inl (upd fR (Int32.toNatClampNeg i3) (-1)))) (isr_ne fs10_1 fs4_1 (by decide))).trans eq_35
              have eq_50 := (va_up_ne fl34 (.inl (kI, 6400, .inl (upd fR (Int32.toNatClampNeg i3) (-1)))) (isr_ne fs2_1 fs4_1 (by decide))).trans eg_36
              have eq_51 := (va_up_ne fl34 (.inl (kI, 6400, .inl (upd fR (Int32.toNatClampNeg i3) (-1)))) (isr_ne fs3_1 fs4_1 (by decide))).trans eg_37
              have eq_52 := (va_up_ne fl34 (.inl (kI, 6400, .inl (upd fR (Int32.toNatClampNeg i3) (-1)))) (isr_ne fs6_1 fs4_1 (by decide))).trans eg_39
              have hfr := fr_up (S := (sK [12, 13, 14, 16])) (e := .inl (kI, 6400, .inl (upd fR (Int32.toNatClampNeg i3) (-1)))) hfr fs4_1 (by decide)
              generalize hg_f_43 : va_up fl34 s4_1 (.inl (kI, 6400, .inl (upd fR (Int32.toNatClampNeg i3) (-1)))) = f_43 at hP hD hPI es_f_43 eq_44 eq_45 eq_46 eq_47 eq_48 eq_49 eq_50 eq_51 eq_52 hfr
              refine lv_iload_n hx hb dX3_born_81 rfl (lv_at hl 3 rfl) ?_
              refine lv_iconst (v := 2) hx hb dX3_born_82 (by decide) ?_
              refine lv_icmp_ne (tgt := 100) hx hb dX3_born_83 (by decide) (fun c_53 => ?_) (fun c_53 => ?_)
              · have c_53 := mt Int32.toInt_inj.mp c_53
                refine lv_iload_n hx hb dX3_born_100 rfl (lv_at hl 3 rfl) ?_
                refine lv_iconst (v := 4) hx hb dX3_born_101 (by decide) ?_
                refine lv_icmp_ne (tgt := 119) hx hb dX3_born_102 (by decide) (fun c_54 => ?_) (fun c_54 => ?_)
                · have c_54 := mt Int32.toInt_inj.mp c_54
                  refine lv_iload_n hx hb dX3_born_119 rfl (lv_at hl 1 rfl) ?_
                  subst eQ
                  exact W.iret (v := i3) hx hb hr (fun t ht hW => ⟨⟨i3, (), rfl, ⟨hLF, by omega, by omega⟩, f_43, hPI, ⟨(FR.tr hfrE34 hfr (fun _ h => h)), _, hLF, ZV.mk hU fs6_1 eq_52, (by rw [show bnF fF (Int32.toNatClampNeg i3) c0 n0 = (bnK fF (Int32.toNatClampNeg i3) (Int32.toNatClampNeg i4)) from (by first | ((try simp only [km1_, k0_, k1_, k2_, k4_, k13_, k16_, k17_] at c_5 c_40 c_53 c_54); simp only [bnF, ← ez_4, hq_17, c_5, c_40, c_53, c_54, km1_, k0_, k1_, k2_, k4_, k13_, k16_, k17_, ↓reduceIte, and_self, and_true, true_and, and_false, false_and, or_self, or_true, true_or, or_false, false_or, not_true_eq_false, not_false_eq_true, eq_self, Int.reduceLE, Int.reduceLT, Int.reduceEq]; done) | exact absurd c_5 c_40 | exact absurd c_5 c_53 | exact absurd c_5 c_54 | exact absurd c_40 c_5 | exact absurd c_40 c_53 | exact absurd c_40 c_54 | exact absurd c_53 c_5 | exact absurd c_53 c_40 | exact absurd c_53 c_54 | exact absurd c_54 c_5 | exact absurd c_54 c_40 | exact absurd c_54 c_53 | ((try simp only [km1_, k0_, k1_, k2_, k4_, k13_, k16_, k17_] at c_5 c_40 c_53 c_54); simp only [bnF, ← ez_4, hq_17, c_5, c_40, c_53, c_54, km1_, k0_, k1_, k2_, k4_, k13_, k16_, k17_, ↓reduceIte, and_self, and_true, true_and, and_false, false_and, or_self, or_true, true_or, or_false, false_or, not_true_eq_false, not_false_eq_true, eq_self, Int.reduceLE, Int.reduceLT, Int.reduceEq] <;> (repeat' split) <;> first | with_reducible rfl | with_reducible assumption | (exfalso; omega) | rfl | trivial | assumption) | (simp only [bnF, ← ez_4, hq_17]; done) | (simp only [bnF, ← ez_4, hq_17] <;> (repeat' split) <;> first | (exfalso; omega) | assumption | trivial | rfl) | (simp only [bnF, ez_4, hq_17] <;> (repeat' split) <;> first | (exfalso; omega) | assumption | trivial | rfl | contradiction) | (subst ez_4; simp only [bnF, hq_17] <;> (repeat' split) <;> first | (exfalso; omega) | assumption | trivial | rfl))]; exact ⟨SV.mk hU fs1_1 fs2_1 fs3_1 eq_45 eq_50 eq_51, ⟨un_row hU fs4_1 es_f_43, un_row hU fs5_1 eq_46⟩, ⟨un_row hU fs8_1 eq_47, un_row hU fs9_1 eq_48, un_row hU fs10_1 eq_49⟩, (by rw [eq_44]; rfl), (by rw [eq_44]; rfl)⟩)⟩, by rw [ht]; exact hP, hD⟩, hS.F ht⟩) hS.2.2 dX3_born_120
                · have c_54 := congrArg Int32.toInt c_54
                  refine lv_aload_n hx hb dX3_born_105 rfl (lv_at hl 2 rfl) ?_
                  obtain ⟨k_55, hk_55⟩ := va_plg hg0.1 eq_44
                  refine va_get (D := (dC, dI)) (ci := 3) (v := .ref s3_1) (C := RX3) (T := TX3) (N := 23) hx hb hts iX3_ hown hK hP k_55 hk_55 rfl 2 (by decide) (hts (.fieldLink RX3 17 "FieldLeavesModel" "field" "[J") (by decide +kernel)) (fun _ h9 => h9) rfl dX3_born_106 ?_
                  refine lv_bipush (v := 17) hx hb dX3_born_109 (by decide) ?_
                  refine lv_iload_n hx hb dX3_born_111 rfl (lv_at hl 1 rfl) ?_
                  refine lv_imul hx hb dX3_born_112 ?_
                  refine lv_topi (fun z_56 ez_56 => ?_)
                  have kz_56 := mul17 ez_56 (by omega) (by omega)
                  refine lv_bipush (v := 16) hx hb dX3_born_113 (by decide) ?_
                  refine lv_iadd hx hb dX3_born_115 ?_
                  refine lv_topi (fun z_57 ez_57 => ?_)
                  have kz_57 := add_toInt ez_57 (by omega) (by omega)
                  refine lv_iload_n hx hb dX3_born_116 rfl (lv_at hl 4 rfl) ?_
                  refine lv_i2l (v := Int32.toInt64 n0) hx hb dX3_born_117 rfl ?_
                  have k_z_58 := Int32.toInt_toInt64 n0
                  obtain ⟨k_59, hk_59⟩ := va_plg fs3_1.1 eq_51
                  have hq_i_60 := idx_clamp (o := i3) (f := 16) (w := z_57) (by omega) (by omega) (by omega)
                  rw [show Int32.toNatClampNeg 16 = 16 from by decide] at hq_i_60
                  have h_59 : vp_in z_57 108800 := (vp_in_iff.mpr (by constructor <;> omega))
                  have fw_59 := rgF.plain fg_37 (o := i3) (f := 16) (w := z_57) (v := (Int32.toInt64 n0)) (by constructor <;> omega) (by omega) (by omega)
                  have hD9 := hD
                  refine va_last hx hb hK hP hD hS k_59 1 hk_59 rfl h_59 dX3_born_118 (fun H locs hP hD hS => ?_)
                  have hP : va_P (dC, dI) vwCl (va_pl L (va_up f_43 s3_1 (.inl (kJ, 108800, .inr (.inl (vp_updL (bnK fF (Int32.toNatClampNeg i3) (Int32.toNatClampNeg i4)) (Int32.toNatClampNeg z_57) (Int32.toInt64 n0))))))) H := by rw [← va_pls hD9 fs3_1.1 hk_59 _]; exact hP
                  have hD : va_D A (va_pl L (va_up f_43 s3_1 (.inl (kJ, 108800, .inr (.inl (vp_updL (bnK fF (Int32.toNatClampNeg i3) (Int32.toNatClampNeg i4)) (Int32.toNatClampNeg z_57) (Int32.toInt64 n0))))))) := by rw [← va_pls hD9 fs3_1.1 hk_59 _]; exact hD
                  have hPI := hPI.put (e := .inl (kJ, 108800, .inr (.inl (vp_updL (bnK fF (Int32.toNatClampNeg i3) (Int32.toNatClampNeg i4)) (Int32.toNatClampNeg z_57) (Int32.toInt64 n0))))) fs3_1 ⟨_, rfl, fw_59⟩
                  have es_f_61 : va_up f_43 s3_1 (.inl (kJ, 108800, .inr (.inl (vp_updL (bnK fF (Int32.toNatClampNeg i3) (Int32.toNatClampNeg i4)) (Int32.toNatClampNeg z_57) (Int32.toInt64 n0))))) s3_1 = .inl (kJ, 108800, .inr (.inl (vp_updL (bnK fF (Int32.toNatClampNeg i3) (Int32.toNatClampNeg i4)) (Int32.toNatClampNeg z_57) (Int32.toInt64 n0)))) := va_up_self _ _ _
                  have eq_62 := (va_up_ne f_43 (.inl (kJ, 108800, .inr (.inl (vp_updL (bnK fF (Int32.toNatClampNeg i3) (Int32.toNatClampNeg i4)) (Int32.toNatClampNeg z_57) (Int32.toInt64 n0))))) (isr_ne hg0 fs3_1 (by decide))).trans eq_44
                  have eq_63 := (va_up_ne f_43 (.inl (kJ, 108800, .inr (.inl (vp_updL (bnK fF (Int32.toNatClampNeg i3) (Int32.toNatClampNeg i4)) (Int32.toNatClampNeg z_57) (Int32.toInt64 n0))))) (isr_ne fs1_1 fs3_1 (by decide))).trans eq_45
                  have eq_64 := (va_up_ne f_43 (.inl (kJ, 108800, .inr (.inl (vp_updL (bnK fF (Int32.toNatClampNeg i3) (Int32.toNatClampNeg i4)) (Int32.toNatClampNeg z_57) (Int32.toInt64 n0))))) (isr_ne fs5_1 fs3_1 (by decide))).trans eq_46
                  have eq_65 := (va_up_ne f_43 (.inl (kJ, 108800, .inr (.inl (vp_updL (bnK fF (Int32.toNatClampNeg i3) (Int32.toNatClampNeg i4)) (Int32.toNatClampNeg z_57) (Int32.toInt64 n0))))) (isr_ne fs8_1 fs3_1 (by decide))).trans eq_47
                  have eq_66 := (va_up_ne f_43 (.inl (kJ, 108800, .inr (.inl (vp_updL (bnK fF (Int32.toNatClampNeg i3) (Int32.toNatClampNeg i4)) (Int32.toNatClampNeg z_57) (Int32.toInt64 n0))))) (isr_ne fs9_1 fs3_1 (by decide))).trans eq_48
                  have eq_67 := (va_up_ne f_43 (.inl (kJ, 108800, .inr (.inl (vp_updL (bnK fF (Int32.toNatClampNeg i3) (Int32.toNatClampNeg i4)) (Int32.toNatClampNeg z_57) (Int32.toInt64 n0))))) (isr_ne fs10_1 fs3_1 (by decide))).trans eq_49
                  have eq_68 := (va_up_ne f_43 (.inl (kJ, 108800, .inr (.inl (vp_updL (bnK fF (Int32.toNatClampNeg i3) (Int32.toNatClampNeg i4)) (Int32.toNatClampNeg z_57) (Int32.toInt64 n0))))) (isr_ne fs2_1 fs3_1 (by decide))).trans eq_50
                  have eq_69 := (va_up_ne f_43 (.inl (kJ, 108800, .inr (.inl (vp_updL (bnK fF (Int32.toNatClampNeg i3) (Int32.toNatClampNeg i4)) (Int32.toNatClampNeg z_57) (Int32.toInt64 n0))))) (isr_ne fs6_1 fs3_1 (by decide))).trans eq_52
                  have eq_70 := (va_up_ne f_43 (.inl (kJ, 108800, .inr (.inl (vp_updL (bnK fF (Int32.toNatClampNeg i3) (Int32.toNatClampNeg i4)) (Int32.toNatClampNeg z_57) (Int32.toInt64 n0))))) (isr_ne fs4_1 fs3_1 (by decide))).trans es_f_43
                  have hfr := fr_up (S := (sK [12, 13, 14, 16])) (e := .inl (kJ, 108800, .inr (.inl (vp_updL (bnK fF (Int32.toNatClampNeg i3) (Int32.toNatClampNeg i4)) (Int32.toNatClampNeg z_57) (Int32.toInt64 n0))))) hfr fs3_1 (by decide)
                  generalize hg_f_61 : va_up f_43 s3_1 (.inl (kJ, 108800, .inr (.inl (vp_updL (bnK fF (Int32.toNatClampNeg i3) (Int32.toNatClampNeg i4)) (Int32.toNatClampNeg z_57) (Int32.toInt64 n0))))) = f_61 at hP hD hPI es_f_61 eq_62 eq_63 eq_64 eq_65 eq_66 eq_67 eq_68 eq_69 eq_70 hfr
                  refine lv_iload_n hx hb dX3_born_119 rfl (lv_at hl 1 rfl) ?_
                  subst eQ
                  exact W.iret (v := i3) hx hb hr (fun t ht hW => ⟨⟨i3, (), rfl, ⟨hLF, by omega, by omega⟩, f_61, hPI, ⟨(FR.tr hfrE34 hfr (fun _ h => h)), _, hLF, ZV.mk hU fs6_1 eq_69, (by rw [show bnF fF (Int32.toNatClampNeg i3) c0 n0 = (vp_updL (bnK fF (Int32.toNatClampNeg i3) (Int32.toNatClampNeg i4)) (Int32.toNatClampNeg z_57) (Int32.toInt64 n0)) from (by first | ((try simp only [km1_, k0_, k1_, k2_, k4_, k13_, k16_, k17_] at c_5 c_40 c_53 c_54); simp only [bnF, ← ez_4, ← ez_56, ← ez_57, hq_17, hq_i_60, c_5, c_40, c_53, c_54, km1_, k0_, k1_, k2_, k4_, k13_, k16_, k17_, ↓reduceIte, and_self, and_true, true_and, and_false, false_and, or_self, or_true, true_or, or_false, false_or, not_true_eq_false, not_false_eq_true, eq_self, Int.reduceLE, Int.reduceLT, Int.reduceEq]; done) | exact absurd c_5 c_40 | exact absurd c_5 c_53 | exact absurd c_5 c_54 | exact absurd c_40 c_5 | exact absurd c_40 c_53 | exact absurd c_40 c_54 | exact absurd c_53 c_5 | exact absurd c_53 c_40 | exact absurd c_53 c_54 | exact absurd c_54 c_5 | exact absurd c_54 c_40 | exact absurd c_54 c_53 | ((try simp only [km1_, k0_, k1_, k2_, k4_, k13_, k16_, k17_] at c_5 c_40 c_53 c_54); simp only [bnF, ← ez_4, ← ez_56, ← ez_57, hq_17, hq_i_60, c_5, c_40, c_53, c_54, km1_, k0_, k1_, k2_, k4_, k13_, k16_, k17_, ↓reduceIte, and_self, and_true, true_and, and_false, false_and, or_self, or_true, true_or, or_false, false_or, not_true_eq_false, not_false_eq_true, eq_self, Int.reduceLE, Int.reduceLT, Int.reduceEq] <;> (repeat' split) <;> first | with_reducible rfl | with_reducible assumption | (exfalso; omega) | rfl | trivial | assumption) | (simp only [bnF, ← ez_4, ← ez_56, ← ez_57, hq_17, hq_i_60]; done) | (simp only [bnF, ← ez_4, ← ez_56, ← ez_57, hq_17, hq_i_60] <;> (repeat' split) <;> first | (exfalso; omega) | assumption | trivial | rfl) | (simp only [bnF, ez_4, ez_56, ez_57, hq_17, hq_i_60] <;> (repeat' split) <;> first | (exfalso; omega) | assumption | trivial | rfl | contradiction) | (subst ez_4 ez_56 ez_57; simp only [bnF, hq_17, hq_i_60] <;> (repeat' split) <;> first | (exfalso; omega) | assumption | trivial | rfl))]; exact ⟨SV.mk hU fs1_1 fs2_1 fs3_1 eq_63 eq_68 es_f_61, ⟨un_row hU fs4_1 eq_70, un_row hU fs5_1 eq_64⟩, ⟨un_row hU fs8_1 eq_65, un_row hU fs9_1 eq_66, un_row hU fs10_1 eq_67⟩, (by rw [eq_62]; rfl), (by rw [eq_62]; rfl)⟩)⟩, by rw [ht]; exact hP, hD⟩, hS.F ht⟩) hS.2.2 dX3_born_120
              · have c_53 := congrArg Int32.toInt c_53
                refine lv_aload_n hx hb dX3_born_86 rfl (lv_at hl 2 rfl) ?_
                obtain ⟨k_71, hk_71⟩ := va_plg hg0.1 eq_44
                refine va_get (D := (dC, dI)) (ci := 3) (v := .ref s3_1) (C := RX3) (T := TX3) (N := 23) hx hb hts iX3_ hown hK hP k_71 hk_71 rfl 2 (by decide) (hts (.fieldLink RX3 17 "FieldLeavesModel" "field" "[J") (by decide +kernel)) (fun _ h9 => h9) rfl dX3_born_87 ?_
                refine lv_bipush (v := 17) hx hb dX3_born_90 (by decide) ?_
                refine lv_iload_n hx hb dX3_born_92 rfl (lv_at hl 1 rfl) ?_
                refine lv_imul hx hb dX3_born_93 ?_
                refine lv_topi (fun z_72 ez_72 => ?_)
                have kz_72 := mul17 ez_72 (by omega) (by omega)
                refine lv_bipush (v := 13) hx hb dX3_born_94 (by decide) ?_
                refine lv_iadd hx hb dX3_born_96 ?_
                refine lv_topi (fun z_73 ez_73 => ?_)
                have kz_73 := add_toInt ez_73 (by omega) (by omega)
                refine lv_iload_n hx hb dX3_born_97 rfl (lv_at hl 4 rfl) ?_
                refine lv_i2l (v := Int32.toInt64 n0) hx hb dX3_born_98 rfl ?_
                have k_z_74 := Int32.toInt_toInt64 n0
                obtain ⟨k_75, hk_75⟩ := va_plg fs3_1.1 eq_51
                have hq_i_76 := idx_clamp (o := i3) (f := 13) (w := z_73) (by omega) (by omega) (by omega)
                rw [show Int32.toNatClampNeg 13 = 13 from by decide] at hq_i_76
                have h_75 : vp_in z_73 108800 := (vp_in_iff.mpr (by constructor <;> omega))
                have fw_75 := rgF.plain fg_37 (o := i3) (f := 13) (w := z_73) (v := (Int32.toInt64 n0)) (by constructor <;> omega) (by omega) (by omega)
                have hD9 := hD
                refine va_last hx hb hK hP hD hS k_75 1 hk_75 rfl h_75 dX3_born_99 (fun H locs hP hD hS => ?_)
                have hP : va_P (dC, dI) vwCl (va_pl L (va_up f_43 s3_1 (.inl (kJ, 108800, .inr (.inl (vp_updL (bnK fF (Int32.toNatClampNeg i3) (Int32.toNatClampNeg i4)) (Int32.toNatClampNeg z_73) (Int32.toInt64 n0))))))) H := by rw [← va_pls hD9 fs3_1.1 hk_75 _]; exact hP
                have hD : va_D A (va_pl L (va_up f_43 s3_1 (.inl (kJ, 108800, .inr (.inl (vp_updL (bnK fF (Int32.toNatClampNeg i3) (Int32.toNatClampNeg i4)) (Int32.toNatClampNeg z_73) (Int32.toInt64 n0))))))) := by rw [← va_pls hD9 fs3_1.1 hk_75 _]; exact hD
                have hPI := hPI.put (e := .inl (kJ, 108800, .inr (.inl (vp_updL (bnK fF (Int32.toNatClampNeg i3) (Int32.toNatClampNeg i4)) (Int32.toNatClampNeg z_73) (Int32.toInt64 n0))))) fs3_1 ⟨_, rfl, fw_75⟩
                have es_f_77 : va_up f_43 s3_1 (.inl (kJ, 108800, .inr (.inl (vp_updL (bnK fF (Int32.toNatClampNeg i3) (Int32.toNatClampNeg i4)) (Int32.toNatClampNeg z_73) (Int32.toInt64 n0))))) s3_1 = .inl (kJ, 108800, .inr (.inl (vp_updL (bnK fF (Int32.toNatClampNeg i3) (Int32.toNatClampNeg i4)) (Int32.toNatClampNeg z_73) (Int32.toInt64 n0)))) := va_up_self _ _ _
                have eq_78 := (va_up_ne f_43 (.inl (kJ, 108800, .inr (.inl (vp_updL (bnK fF (Int32.toNatClampNeg i3) (Int32.toNatClampNeg i4)) (Int32.toNatClampNeg z_73) (Int32.toInt64 n0))))) (isr_ne hg0 fs3_1 (by decide))).trans eq_44
                have eq_79 := (va_up_ne f_43 (.inl (kJ, 108800, .inr (.inl (vp_updL (bnK fF (Int32.toNatClampNeg i3) (Int32.toNatClampNeg i4)) (Int32.toNatClampNeg z_73) (Int32.toInt64 n0))))) (isr_ne fs1_1 fs3_1 (by decide))).trans eq_45
                have eq_80 := (va_up_ne f_43 (.inl (kJ, 108800, .inr (.inl (vp_updL (bnK fF (Int32.toNatClampNeg i3) (Int32.toNatClampNeg i4)) (Int32.toNatClampNeg z_73) (Int32.toInt64 n0))))) (isr_ne fs5_1 fs3_1 (by decide))).trans eq_46
                have eq_81 := (va_up_ne f_43 (.inl (kJ, 108800, .inr (.inl (vp_updL (bnK fF (Int32.toNatClampNeg i3) (Int32.toNatClampNeg i4)) (Int32.toNatClampNeg z_73) (Int32.toInt64 n0))))) (isr_ne fs8_1 fs3_1 (by decide))).trans eq_47
                have eq_82 := (va_up_ne f_43 (.inl (kJ, 108800, .inr (.inl (vp_updL (bnK fF (Int32.toNatClampNeg i3) (Int32.toNatClampNeg i4)) (Int32.toNatClampNeg z_73) (Int32.toInt64 n0))))) (isr_ne fs9_1 fs3_1 (by decide))).trans eq_48
                have eq_83 := (va_up_ne f_43 (.inl (kJ, 108800, .inr (.inl (vp_updL (bnK fF (Int32.toNatClampNeg i3) (Int32.toNatClampNeg i4)) (Int32.toNatClampNeg z_73) (Int32.toInt64 n0))))) (isr_ne fs10_1 fs3_1 (by decide))).trans eq_49
                have eq_84 := (va_up_ne f_43 (.inl (kJ, 108800, .inr (.inl (vp_updL (bnK fF (Int32.toNatClampNeg i3) (Int32.toNatClampNeg i4)) (Int32.toNatClampNeg z_73) (Int32.toInt64 n0))))) (isr_ne fs2_1 fs3_1 (by decide))).trans eq_50
                have eq_85 := (va_up_ne f_43 (.inl (kJ, 108800, .inr (.inl (vp_updL (bnK fF (Int32.toNatClampNeg i3) (Int32.toNatClampNeg i4)) (Int32.toNatClampNeg z_73) (Int32.toInt64 n0))))) (isr_ne fs6_1 fs3_1 (by decide))).trans eq_52
                have eq_86 := (va_up_ne f_43 (.inl (kJ, 108800, .inr (.inl (vp_updL (bnK fF (Int32.toNatClampNeg i3) (Int32.toNatClampNeg i4)) (Int32.toNatClampNeg z_73) (Int32.toInt64 n0))))) (isr_ne fs4_1 fs3_1 (by decide))).trans es_f_43
                have hfr := fr_up (S := (sK [12, 13, 14, 16])) (e := .inl (kJ, 108800, .inr (.inl (vp_updL (bnK fF (Int32.toNatClampNeg i3) (Int32.toNatClampNeg i4)) (Int32.toNatClampNeg z_73) (Int32.toInt64 n0))))) hfr fs3_1 (by decide)
                generalize hg_f_77 : va_up f_43 s3_1 (.inl (kJ, 108800, .inr (.inl (vp_updL (bnK fF (Int32.toNatClampNeg i3) (Int32.toNatClampNeg i4)) (Int32.toNatClampNeg z_73) (Int32.toInt64 n0))))) = f_77 at hP hD hPI es_f_77 eq_78 eq_79 eq_80 eq_81 eq_82 eq_83 eq_84 eq_85 eq_86 hfr
                refine lv_iload_n hx hb dX3_born_100 rfl (lv_at hl 3 rfl) ?_
                refine lv_iconst (v := 4) hx hb dX3_born_101 (by decide) ?_
                refine lv_icmp_ne (tgt := 119) hx hb dX3_born_102 (by decide) (fun c_87 => ?_) (fun c_87 => ?_)
                · have c_87 := mt Int32.toInt_inj.mp c_87
                  refine lv_iload_n hx hb dX3_born_119 rfl (lv_at hl 1 rfl) ?_
                  subst eQ
                  exact W.iret (v := i3) hx hb hr (fun t ht hW => ⟨⟨i3, (), rfl, ⟨hLF, by omega, by omega⟩, f_77, hPI, ⟨(FR.tr hfrE34 hfr (fun _ h => h)), _, hLF, ZV.mk hU fs6_1 eq_85, (by rw [show bnF fF (Int32.toNatClampNeg i3) c0 n0 = (vp_updL (bnK fF (Int32.toNatClampNeg i3) (Int32.toNatClampNeg i4)) (Int32.toNatClampNeg z_73) (Int32.toInt64 n0)) from (by first | ((try simp only [km1_, k0_, k1_, k2_, k4_, k13_, k16_, k17_] at c_5 c_40 c_53 c_87); simp only [bnF, ← ez_4, ← ez_72, ← ez_73, hq_17, hq_i_76, c_5, c_40, c_53, c_87, km1_, k0_, k1_, k2_, k4_, k13_, k16_, k17_, ↓reduceIte, and_self, and_true, true_and, and_false, false_and, or_self, or_true, true_or, or_false, false_or, not_true_eq_false, not_false_eq_true, eq_self, Int.reduceLE, Int.reduceLT, Int.reduceEq]; done) | exact absurd c_5 c_40 | exact absurd c_5 c_53 | exact absurd c_5 c_87 | exact absurd c_40 c_5 | exact absurd c_40 c_53 | exact absurd c_40 c_87 | exact absurd c_53 c_5 | exact absurd c_53 c_40 | exact absurd c_53 c_87 | exact absurd c_87 c_5 | exact absurd c_87 c_40 | exact absurd c_87 c_53 | ((try simp only [km1_, k0_, k1_, k2_, k4_, k13_, k16_, k17_] at c_5 c_40 c_53 c_87); simp only [bnF, ← ez_4, ← ez_72, ← ez_73, hq_17, hq_i_76, c_5, c_40, c_53, c_87, km1_, k0_, k1_, k2_, k4_, k13_, k16_, k17_, ↓reduceIte, and_self, and_true, true_and, and_false, false_and, or_self, or_true, true_or, or_false, false_or, not_true_eq_false, not_false_eq_true, eq_self, Int.reduceLE, Int.reduceLT, Int.reduceEq] <;> (repeat' split) <;> first | with_reducible rfl | with_reducible assumption | (exfalso; omega) | rfl | trivial | assumption) | (simp only [bnF, ← ez_4, ← ez_72, ← ez_73, hq_17, hq_i_76]; done) | (simp only [bnF, ← ez_4, ← ez_72, ← ez_73, hq_17, hq_i_76] <;> (repeat' split) <;> first | (exfalso; omega) | assumption | trivial | rfl) | (simp only [bnF, ez_4, ez_72, ez_73, hq_17, hq_i_76] <;> (repeat' split) <;> first | (exfalso; omega) | assumption | trivial | rfl | contradiction) | (subst ez_4 ez_72 ez_73; simp only [bnF, hq_17, hq_i_76] <;> (repeat' split) <;> first | (exfalso; omega) | assumption | trivial | rfl))]; exact ⟨SV.mk hU fs1_1 fs2_1 fs3_1 eq_79 eq_84 es_f_77, ⟨un_row hU fs4_1 eq_86, un_row hU fs5_1 eq_80⟩, ⟨un_row hU fs8_1 eq_81, un_row hU fs9_1 eq_82, un_row hU fs10_1 eq_83⟩, (by rw [eq_78]; rfl), (by rw [eq_78]; rfl)⟩)⟩, by rw [ht]; exact hP, hD⟩, hS.F ht⟩) hS.2.2 dX3_born_120
                · have c_87 := congrArg Int32.toInt c_87
                  refine lv_aload_n hx hb dX3_born_105 rfl (lv_at hl 2 rfl) ?_
                  obtain ⟨k_88, hk_88⟩ := va_plg hg0.1 eq_78
                  refine va_get (D := (dC, dI)) (ci := 3) (v := .ref s3_1) (C := RX3) (T := TX3) (N := 23) hx hb hts iX3_ hown hK hP k_88 hk_88 rfl 2 (by decide) (hts (.fieldLink RX3 17 "FieldLeavesModel" "field" "[J") (by decide +kernel)) (fun _ h9 => h9) rfl dX3_born_106 ?_
                  refine lv_bipush (v := 17) hx hb dX3_born_109 (by decide) ?_
                  refine lv_iload_n hx hb dX3_born_111 rfl (lv_at hl 1 rfl) ?_
                  refine lv_imul hx hb dX3_born_112 ?_
                  refine lv_topi (fun z_89 ez_89 => ?_)
                  have kz_89 := mul17 ez_89 (by omega) (by omega)
                  refine lv_bipush (v := 16) hx hb dX3_born_113 (by decide) ?_
                  refine lv_iadd hx hb dX3_born_115 ?_
                  refine lv_topi (fun z_90 ez_90 => ?_)
                  have kz_90 := add_toInt ez_90 (by omega) (by omega)
                  refine lv_iload_n hx hb dX3_born_116 rfl (lv_at hl 4 rfl) ?_
                  refine lv_i2l (v := Int32.toInt64 n0) hx hb dX3_born_117 rfl ?_
                  have k_z_91 := Int32.toInt_toInt64 n0
                  obtain ⟨k_92, hk_92⟩ := va_plg fs3_1.1 es_f_77
                  have hq_i_93 := idx_clamp (o := i3) (f := 16) (w := z_90) (by omega) (by omega) (by omega)
                  rw [show Int32.toNatClampNeg 16 = 16 from by decide] at hq_i_93
                  have h_92 : vp_in z_90 108800 := (vp_in_iff.mpr (by constructor <;> omega))
                  have fw_92 := rgF.plain fw_75 (o := i3) (f := 16) (w := z_90) (v := (Int32.toInt64 n0)) (by constructor <;> omega) (by omega) (by omega)
                  have hD9 := hD
                  refine va_last hx hb hK hP hD hS k_92 1 hk_92 rfl h_92 dX3_born_118 (fun H locs hP hD hS => ?_)
                  have hP : va_P (dC, dI) vwCl (va_pl L (va_up f_77 s3_1 (.inl (kJ, 108800, .inr (.inl (vp_updL (vp_updL (bnK fF (Int32.toNatClampNeg i3) (Int32.toNatClampNeg i4)) (Int32.toNatClampNeg z_73) (Int32.toInt64 n0)) (Int32.toNatClampNeg z_90) (Int32.toInt64 n0))))))) H := by rw [← va_pls hD9 fs3_1.1 hk_92 _]; exact hP
                  have hD : va_D A (va_pl L (va_up f_77 s3_1 (.inl (kJ, 108800, .inr (.inl (vp_updL (vp_updL (bnK fF (Int32.toNatClampNeg i3) (Int32.toNatClampNeg i4)) (Int32.toNatClampNeg z_73) (Int32.toInt64 n0)) (Int32.toNatClampNeg z_90) (Int32.toInt64 n0))))))) := by rw [← va_pls hD9 fs3_1.1 hk_92 _]; exact hD
                  have hPI := hPI.put (e := .inl (kJ, 108800, .inr (.inl (vp_updL (vp_updL (bnK fF (Int32.toNatClampNeg i3) (Int32.toNatClampNeg i4)) (Int32.toNatClampNeg z_73) (Int32.toInt64 n0)) (Int32.toNatClampNeg z_90) (Int32.toInt64 n0))))) fs3_1 ⟨_, rfl, fw_92⟩
                  have es_f_94 : va_up f_77 s3_1 (.inl (kJ, 108800, .inr (.inl (vp_updL (vp_updL (bnK fF (Int32.toNatClampNeg i3) (Int32.toNatClampNeg i4)) (Int32.toNatClampNeg z_73) (Int32.toInt64 n0)) (Int32.toNatClampNeg z_90) (Int32.toInt64 n0))))) s3_1 = .inl (kJ, 108800, .inr (.inl (vp_updL (vp_updL (bnK fF (Int32.toNatClampNeg i3) (Int32.toNatClampNeg i4)) (Int32.toNatClampNeg z_73) (Int32.toInt64 n0)) (Int32.toNatClampNeg z_90) (Int32.toInt64 n0)))) := va_up_self _ _ _
                  have eq_95 := (va_up_ne f_77 (.inl (kJ, 108800, .inr (.inl (vp_updL (vp_updL (bnK fF (Int32.toNatClampNeg i3) (Int32.toNatClampNeg i4)) (Int32.toNatClampNeg z_73) (Int32.toInt64 n0)) (Int32.toNatClampNeg z_90) (Int32.toInt64 n0))))) (isr_ne hg0 fs3_1 (by decide))).trans eq_78
                  have eq_96 := (va_up_ne f_77 (.inl (kJ, 108800, .inr (.inl (vp_updL (vp_updL (bnK fF (Int32.toNatClampNeg i3) (Int32.toNatClampNeg i4)) (Int32.toNatClampNeg z_73) (Int32.toInt64 n0)) (Int32.toNatClampNeg z_90) (Int32.toInt64 n0))))) (isr_ne fs1_1 fs3_1 (by decide))).trans eq_79
                  have eq_97 := (va_up_ne f_77 (.inl (kJ, 108800, .inr (.inl (vp_updL (vp_updL (bnK fF (Int32.toNatClampNeg i3) (Int32.toNatClampNeg i4)) (Int32.toNatClampNeg z_73) (Int32.toInt64 n0)) (Int32.toNatClampNeg z_90) (Int32.toInt64 n0))))) (isr_ne fs5_1 fs3_1 (by decide))).trans eq_80
                  have eq_98 := (va_up_ne f_77 (.inl (kJ, 108800, .inr (.inl (vp_updL (vp_updL (bnK fF (Int32.toNatClampNeg i3) (Int32.toNatClampNeg i4)) (Int32.toNatClampNeg z_73) (Int32.toInt64 n0)) (Int32.toNatClampNeg z_90) (Int32.toInt64 n0))))) (isr_ne fs8_1 fs3_1 (by decide))).trans eq_81
                  have eq_99 := (va_up_ne f_77 (.inl (kJ, 108800, .inr (.inl (vp_updL (vp_updL (bnK fF (Int32.toNatClampNeg i3) (Int32.toNatClampNeg i4)) (Int32.toNatClampNeg z_73) (Int32.toInt64 n0)) (Int32.toNatClampNeg z_90) (Int32.toInt64 n0))))) (isr_ne fs9_1 fs3_1 (by decide))).trans eq_82
                  have eq_100 := (va_up_ne f_77 (.inl (kJ, 108800, .inr (.inl (vp_updL (vp_updL (bnK fF (Int32.toNatClampNeg i3) (Int32.toNatClampNeg i4)) (Int32.toNatClampNeg z_73) (Int32.toInt64 n0)) (Int32.toNatClampNeg z_90) (Int32.toInt64 n0))))) (isr_ne fs10_1 fs3_1 (by decide))).trans eq_83
                  have eq_101 := (va_up_ne f_77 (.inl (kJ, 108800, .inr (.inl (vp_updL (vp_updL (bnK fF (Int32.toNatClampNeg i3) (Int32.toNatClampNeg i4)) (Int32.toNatClampNeg z_73) (Int32.toInt64 n0)) (Int32.toNatClampNeg z_90) (Int32.toInt64 n0))))) (isr_ne fs2_1 fs3_1 (by decide))).trans eq_84
                  have eq_102 := (va_up_ne f_77 (.inl (kJ, 108800, .inr (.inl (vp_updL (vp_updL (bnK fF (Int32.toNatClampNeg i3) (Int32.toNatClampNeg i4)) (Int32.toNatClampNeg z_73) (Int32.toInt64 n0)) (Int32.toNatClampNeg z_90) (Int32.toInt64 n0))))) (isr_ne fs6_1 fs3_1 (by decide))).trans eq_85
                  have eq_103 := (va_up_ne f_77 (.inl (kJ, 108800, .inr (.inl (vp_updL (vp_updL (bnK fF (Int32.toNatClampNeg i3) (Int32.toNatClampNeg i4)) (Int32.toNatClampNeg z_73) (Int32.toInt64 n0)) (Int32.toNatClampNeg z_90) (Int32.toInt64 n0))))) (isr_ne fs4_1 fs3_1 (by decide))).trans eq_86
                  have hfr := fr_up (S := (sK [12, 13, 14, 16])) (e := .inl (kJ, 108800, .inr (.inl (vp_updL (vp_updL (bnK fF (Int32.toNatClampNeg i3) (Int32.toNatClampNeg i4)) (Int32.toNatClampNeg z_73) (Int32.toInt64 n0)) (Int32.toNatClampNeg z_90) (Int32.toInt64 n0))))) hfr fs3_1 (by decide)
                  generalize hg_f_94 : va_up f_77 s3_1 (.inl (kJ, 108800, .inr (.inl (vp_updL (vp_updL (bnK fF (Int32.toNatClampNeg i3) (Int32.toNatClampNeg i4)) (Int32.toNatClampNeg z_73) (Int32.toInt64 n0)) (Int32.toNatClampNeg z_90) (Int32.toInt64 n0))))) = f_94 at hP hD hPI es_f_94 eq_95 eq_96 eq_97 eq_98 eq_99 eq_100 eq_101 eq_102 eq_103 hfr
                  refine lv_iload_n hx hb dX3_born_119 rfl (lv_at hl 1 rfl) ?_
                  subst eQ
                  exact W.iret (v := i3) hx hb hr (fun t ht hW => ⟨⟨i3, (), rfl, ⟨hLF, by omega, by omega⟩, f_94, hPI, ⟨(FR.tr hfrE34 hfr (fun _ h => h)), _, hLF, ZV.mk hU fs6_1 eq_102, (by rw [show bnF fF (Int32.toNatClampNeg i3) c0 n0 = (vp_updL (vp_updL (bnK fF (Int32.toNatClampNeg i3) (Int32.toNatClampNeg i4)) (Int32.toNatClampNeg z_73) (Int32.toInt64 n0)) (Int32.toNatClampNeg z_90) (Int32.toInt64 n0)) from (by first | ((try simp only [km1_, k0_, k1_, k2_, k4_, k13_, k16_, k17_] at c_5 c_40 c_53 c_87); simp only [bnF, ← ez_4, ← ez_72, ← ez_73, ← ez_89, ← ez_90, hq_17, hq_i_76, hq_i_93, c_5, c_40, c_53, c_87, km1_, k0_, k1_, k2_, k4_, k13_, k16_, k17_, ↓reduceIte, and_self, and_true, true_and, and_false, false_and, or_self, or_true, true_or, or_false, false_or, not_true_eq_false, not_false_eq_true, eq_self, Int.reduceLE, Int.reduceLT, Int.reduceEq]; done) | exact absurd c_5 c_40 | exact absurd c_5 c_53 | exact absurd c_5 c_87 | exact absurd c_40 c_5 | exact absurd c_40 c_53 | exact absurd c_40 c_87 | exact absurd c_53 c_5 | exact absurd c_53 c_40 | exact absurd c_53 c_87 | exact absurd c_87 c_5 | exact absurd c_87 c_40 | exact absurd c_87 c_53 | ((try simp only [km1_, k0_, k1_, k2_, k4_, k13_, k16_, k17_] at c_5 c_40 c_53 c_87); simp only [bnF, ← ez_4, ← ez_72, ← ez_73, ← ez_89, ← ez_90, hq_17, hq_i_76, hq_i_93, c_5, c_40, c_53, c_87, km1_, k0_, k1_, k2_, k4_, k13_, k16_, k17_, ↓reduceIte, and_self, and_true, true_and, and_false, false_and, or_self, or_true, true_or, or_false, false_or, not_true_eq_false, not_false_eq_true, eq_self, Int.reduceLE, Int.reduceLT, Int.reduceEq] <;> (repeat' split) <;> first | with_reducible rfl | with_reducible assumption | (exfalso; omega) | rfl | trivial | assumption) | (simp only [bnF, ← ez_4, ← ez_72, ← ez_73, ← ez_89, ← ez_90, hq_17, hq_i_76, hq_i_93]; done) | (simp only [bnF, ← ez_4, ← ez_72, ← ez_73, ← ez_89, ← ez_90, hq_17, hq_i_76, hq_i_93] <;> (repeat' split) <;> first | (exfalso; omega) | assumption | trivial | rfl) | (simp only [bnF, ez_4, ez_72, ez_73, ez_89, ez_90, hq_17, hq_i_76, hq_i_93] <;> (repeat' split) <;> first | (exfalso; omega) | assumption | trivial | rfl | contradiction) | (subst ez_4 ez_72 ez_73 ez_89 ez_90; simp only [bnF, hq_17, hq_i_76, hq_i_93] <;> (repeat' split) <;> first | (exfalso; omega) | assumption | trivial | rfl))]; exact ⟨SV.mk hU fs1_1 fs2_1 fs3_1 eq_96 eq_101 es_f_94, ⟨un_row hU fs4_1 eq_103, un_row hU fs5_1 eq_97⟩, ⟨un_row hU fs8_1 eq_98, un_row hU fs9_1 eq_99, un_row hU fs10_1 eq_100⟩, (by rw [eq_95]; rfl), (by rw [eq_95]; rfl)⟩)⟩, by rw [ht]; exact hP, hD⟩, hS.F ht⟩) hS.2.2 dX3_born_120
            · have c_40 := mt Int32.le_iff_toInt_le.mpr c_40
              refine lv_aload_n hx hb dX3_born_41 rfl (lv_at hl 2 rfl) ?_
              obtain ⟨k_104, hk_104⟩ := va_plg hg0.1 eq_30
              refine va_get (D := (dC, dI)) (ci := 3) (v := .ref s3_1) (C := RX3) (T := TX3) (N := 23) hx hb hts iX3_ hown hK hP k_104 hk_104 rfl 2 (by decide) (hts (.fieldLink RX3 17 "FieldLeavesModel" "field" "[J") (by decide +kernel)) (fun _ h9 => h9) rfl dX3_born_42 ?_
              refine lv_bipush (v := 17) hx hb dX3_born_45 (by decide) ?_
              refine lv_iload_n hx hb dX3_born_47 rfl (lv_at hl 1 rfl) ?_
              refine lv_imul hx hb dX3_born_48 ?_
              refine lv_topi (fun z_105 ez_105 => ?_)
              have kz_105 := mul17 ez_105 (by omega) (by omega)
              refine lv_iload hx hb dX3_born_49 (lv_at hl 0 rfl) ?_
              refine lv_iadd hx hb dX3_born_51 ?_
              refine lv_topi (fun z_106 ez_106 => ?_)
              have kz_106 := add_toInt ez_106 (by omega) (by omega)
              refine lv_iload hx hb dX3_born_52 (lv_at hl 0 rfl) ?_
              refine va_calli (va_runS (As := [.int i4]) (rest := [.int z_106, .ref s3_1]) ⟨hx, hb, hml, hown, hts⟩ (c_X3_isLink l dC dI TT H.size i4) (va_cwS 1 hts gX3_born_X3_isLink rfl rfl rfl (by decide +kernel) ⟨Nat.le_of_ble_eq_true rfl, Nat.le_of_ble_eq_true rfl⟩) (pr_S (ws := []) (wA := []) (tys := []) vp_nil (hK.sub [] rfl) vd_nil hst hS (ro_free hS hA)) rfl rfl hl.1 rfl (lv_room (Nat.le_of_ble_eq_true rfl)) dX3_born_54 ⟨Nat.le_of_ble_eq_true rfl, Nat.le_of_ble_eq_true rfl⟩) hS (fun q _ h => (ro_free hS hA) q h) (ro_free hS hA) (fun r_107 u t H1 locs ht hvm hw hB hz1 hk1 hS => ?_)
              have hP := ro_keep hP hk1
              generalize H1 = H at hP hS ⊢
              rcases hw with ⟨rfl, hp_108⟩ | ⟨rfl, hp_108⟩
              · refine lv_if_eq (tgt := 66) hx hb dX3_born_57 (by decide) (fun c9 => absurd c9 (by decide)) (fun _ => ?_)
                refine lv_ldc2 hx hb hown (hts (.constantLong RX3 82 (-1)) (by decide +kernel)) dX3_born_60 ?_
                refine lv_goto (tgt := 67) hx hb dX3_born_63 (by decide) ?_
                obtain ⟨k_109, hk_109⟩ := va_plg fs3_1.1 eg_37
                have hq_i_110 := idx_clamp (o := i3) (f := i4) (w := z_106) (by omega) (by omega) (by omega)
                have h_109 : vp_in z_106 108800 := (vp_in_iff.mpr (by constructor <;> omega))
                have fw_109 := rgF.link fg_37 (k := Int32.toNatClampNeg z_106) (v := (-1)) (by constructor <;> omega)
                have hD9 := hD
                refine va_last hx hb hK hP hD hS k_109 1 hk_109 rfl h_109 dX3_born_67 (fun H locs hP hD hS => ?_)
                have hP : va_P (dC, dI) vwCl (va_pl L (va_up fl34 s3_1 (.inl (kJ, 108800, .inr (.inl (vp_updL (bnK fF (Int32.toNatClampNeg i3) (Int32.toNatClampNeg i4)) (Int32.toNatClampNeg z_106) (-1))))))) H := by rw [← va_pls hD9 fs3_1.1 hk_109 _]; exact hP
                have hD : va_D A (va_pl L (va_up fl34 s3_1 (.inl (kJ, 108800, .inr (.inl (vp_updL (bnK fF (Int32.toNatClampNeg i3) (Int32.toNatClampNeg i4)) (Int32.toNatClampNeg z_106) (-1))))))) := by rw [← va_pls hD9 fs3_1.1 hk_109 _]; exact hD
                have hPI := hPI.put (e := .inl (kJ, 108800, .inr (.inl (vp_updL (bnK fF (Int32.toNatClampNeg i3) (Int32.toNatClampNeg i4)) (Int32.toNatClampNeg z_106) (-1))))) fs3_1 ⟨_, rfl, fw_109⟩
                have es_f_111 : va_up fl34 s3_1 (.inl (kJ, 108800, .inr (.inl (vp_updL (bnK fF (Int32.toNatClampNeg i3) (Int32.toNatClampNeg i4)) (Int32.toNatClampNeg z_106) (-1))))) s3_1 = .inl (kJ, 108800, .inr (.inl (vp_updL (bnK fF (Int32.toNatClampNeg i3) (Int32.toNatClampNeg i4)) (Int32.toNatClampNeg z_106) (-1)))) := va_up_self _ _ _
                have eq_112 := (va_up_ne fl34 (.inl (kJ, 108800, .inr (.inl (vp_updL (bnK fF (Int32.toNatClampNeg i3) (Int32.toNatClampNeg i4)) (Int32.toNatClampNeg z_106) (-1))))) (isr_ne hg0 fs3_1 (by decide))).trans eq_30
                have eq_113 := (va_up_ne fl34 (.inl (kJ, 108800, .inr (.inl (vp_updL (bnK fF (Int32.toNatClampNeg i3) (Int32.toNatClampNeg i4)) (Int32.toNatClampNeg z_106) (-1))))) (isr_ne fs1_1 fs3_1 (by decide))).trans eq_31
                have eq_114 := (va_up_ne fl34 (.inl (kJ, 108800, .inr (.inl (vp_updL (bnK fF (Int32.toNatClampNeg i3) (Int32.toNatClampNeg i4)) (Int32.toNatClampNeg z_106) (-1))))) (isr_ne fs5_1 fs3_1 (by decide))).trans eq_32
                have eq_115 := (va_up_ne fl34 (.inl (kJ, 108800, .inr (.inl (vp_updL (bnK fF (Int32.toNatClampNeg i3) (Int32.toNatClampNeg i4)) (Int32.toNatClampNeg z_106) (-1))))) (isr_ne fs8_1 fs3_1 (by decide))).trans eq_33
                have eq_116 := (va_up_ne fl34 (.inl (kJ, 108800, .inr (.inl (vp_updL (bnK fF (Int32.toNatClampNeg i3) (Int32.toNatClampNeg i4)) (Int32.toNatClampNeg z_106) (-1))))) (isr_ne fs9_1 fs3_1 (by decide))).trans eq_34
                have eq_117 := (va_up_ne fl34 (.inl (kJ, 108800, .inr (.inl (vp_updL (bnK fF (Int32.toNatClampNeg i3) (Int32.toNatClampNeg i4)) (Int32.toNatClampNeg z_106) (-1))))) (isr_ne fs10_1 fs3_1 (by decide))).trans eq_35
                have eq_118 := (va_up_ne fl34 (.inl (kJ, 108800, .inr (.inl (vp_updL (bnK fF (Int32.toNatClampNeg i3) (Int32.toNatClampNeg i4)) (Int32.toNatClampNeg z_106) (-1))))) (isr_ne fs2_1 fs3_1 (by decide))).trans eg_36
                have eq_119 := (va_up_ne fl34 (.inl (kJ, 108800, .inr (.inl (vp_updL (bnK fF (Int32.toNatClampNeg i3) (Int32.toNatClampNeg i4)) (Int32.toNatClampNeg z_106) (-1))))) (isr_ne fs4_1 fs3_1 (by decide))).trans eg_38
                have eq_120 := (va_up_ne fl34 (.inl (kJ, 108800, .inr (.inl (vp_updL (bnK fF (Int32.toNatClampNeg i3) (Int32.toNatClampNeg i4)) (Int32.toNatClampNeg z_106) (-1))))) (isr_ne fs6_1 fs3_1 (by decide))).trans eg_39
                have hfr := fr_up (S := (sK [12, 13, 14, 16])) (e := .inl (kJ, 108800, .inr (.inl (vp_updL (bnK fF (Int32.toNatClampNeg i3) (Int32.toNatClampNeg i4)) (Int32.toNatClampNeg z_106) (-1))))) hfr fs3_1 (by decide)
                generalize hg_f_111 : va_up fl34 s3_1 (.inl (kJ, 108800, .inr (.inl (vp_updL (bnK fF (Int32.toNatClampNeg i3) (Int32.toNatClampNeg i4)) (Int32.toNatClampNeg z_106) (-1))))) = f_111 at hP hD hPI es_f_111 eq_112 eq_113 eq_114 eq_115 eq_116 eq_117 eq_118 eq_119 eq_120 hfr
                obtain ⟨i_121, ei_121⟩ : ∃ y : Int32, y = i4 + 1 := ⟨_, rfl⟩
                refine lv_iinc (v := i_121) (lv' := [(4, .int i_121), (3, .int i3), (0, .ref g0), (1, .int c0), (2, .int n0)]) hx hb dX3_born_68 hl (k := 0) rfl (by rw [ei_121]; rfl) (by decide) rfl (fun ls hl => ?_)
                have ki_121 := inc_toInt ei_121 (by omega)
                refine lv_goto (tgt := 34) hx hb dX3_born_71 (by decide) ?_
                exact ih_34 i_121 f_111 _ _ _  (by omega) (by omega) ⟨hfr, ⟨(by rw [cl_succ (by omega) ki_121, ← bnK_step (bv_is (i := i4) (by omega) (by first | exact Or.inl ⟨by omega, rfl⟩ | exact Or.inr ⟨by omega, rfl⟩)), ← hq_i_110]; exact ⟨SV.mk hU fs1_1 fs2_1 fs3_1 eq_113 eq_118 es_f_111, ⟨un_row hU fs4_1 eq_119, un_row hU fs5_1 eq_114⟩, ⟨un_row hU fs8_1 eq_115, un_row hU fs9_1 eq_116, un_row hU fs10_1 eq_117⟩, (by rw [eq_112]; rfl), (by rw [eq_112]; rfl)⟩), ZV.mk hU fs6_1 eq_120⟩⟩ hPI hP hD hS (lv_sub hl [0, 1, 2, 3, 4] rfl)
              · refine lv_if_eq (tgt := 66) hx hb dX3_born_57 (by decide) (fun _ => ?_) (fun c9 => absurd c9 (by decide))
                refine lv_lconst (v := 0) hx hb dX3_born_66 (by decide) ?_
                obtain ⟨k_122, hk_122⟩ := va_plg fs3_1.1 eg_37
                have hq_i_123 := idx_clamp (o := i3) (f := i4) (w := z_106) (by omega) (by omega) (by omega)
                have h_122 : vp_in z_106 108800 := (vp_in_iff.mpr (by constructor <;> omega))
                have fw_122 := rgF.link fg_37 (k := Int32.toNatClampNeg z_106) (v := 0) (by constructor <;> omega)
                have hD9 := hD
                refine va_last hx hb hK hP hD hS k_122 1 hk_122 rfl h_122 dX3_born_67 (fun H locs hP hD hS => ?_)
                have hP : va_P (dC, dI) vwCl (va_pl L (va_up fl34 s3_1 (.inl (kJ, 108800, .inr (.inl (vp_updL (bnK fF (Int32.toNatClampNeg i3) (Int32.toNatClampNeg i4)) (Int32.toNatClampNeg z_106) 0)))))) H := by rw [← va_pls hD9 fs3_1.1 hk_122 _]; exact hP
                have hD : va_D A (va_pl L (va_up fl34 s3_1 (.inl (kJ, 108800, .inr (.inl (vp_updL (bnK fF (Int32.toNatClampNeg i3) (Int32.toNatClampNeg i4)) (Int32.toNatClampNeg z_106) 0)))))) := by rw [← va_pls hD9 fs3_1.1 hk_122 _]; exact hD
                have hPI := hPI.put (e := .inl (kJ, 108800, .inr (.inl (vp_updL (bnK fF (Int32.toNatClampNeg i3) (Int32.toNatClampNeg i4)) (Int32.toNatClampNeg z_106) 0)))) fs3_1 ⟨_, rfl, fw_122⟩
                have es_f_124 : va_up fl34 s3_1 (.inl (kJ, 108800, .inr (.inl (vp_updL (bnK fF (Int32.toNatClampNeg i3) (Int32.toNatClampNeg i4)) (Int32.toNatClampNeg z_106) 0)))) s3_1 = .inl (kJ, 108800, .inr (.inl (vp_updL (bnK fF (Int32.toNatClampNeg i3) (Int32.toNatClampNeg i4)) (Int32.toNatClampNeg z_106) 0))) := va_up_self _ _ _
                have eq_125 := (va_up_ne fl34 (.inl (kJ, 108800, .inr (.inl (vp_updL (bnK fF (Int32.toNatClampNeg i3) (Int32.toNatClampNeg i4)) (Int32.toNatClampNeg z_106) 0)))) (isr_ne hg0 fs3_1 (by decide))).trans eq_30
                have eq_126 := (va_up_ne fl34 (.inl (kJ, 108800, .inr (.inl (vp_updL (bnK fF (Int32.toNatClampNeg i3) (Int32.toNatClampNeg i4)) (Int32.toNatClampNeg z_106) 0)))) (isr_ne fs1_1 fs3_1 (by decide))).trans eq_31
                have eq_127 := (va_up_ne fl34 (.inl (kJ, 108800, .inr (.inl (vp_updL (bnK fF (Int32.toNatClampNeg i3) (Int32.toNatClampNeg i4)) (Int32.toNatClampNeg z_106) 0)))) (isr_ne fs5_1 fs3_1 (by decide))).trans eq_32
                have eq_128 := (va_up_ne fl34 (.inl (kJ, 108800, .inr (.inl (vp_updL (bnK fF (Int32.toNatClampNeg i3) (Int32.toNatClampNeg i4)) (Int32.toNatClampNeg z_106) 0)))) (isr_ne fs8_1 fs3_1 (by decide))).trans eq_33
                have eq_129 := (va_up_ne fl34 (.inl (kJ, 108800, .inr (.inl (vp_updL (bnK fF (Int32.toNatClampNeg i3) (Int32.toNatClampNeg i4)) (Int32.toNatClampNeg z_106) 0)))) (isr_ne fs9_1 fs3_1 (by decide))).trans eq_34
                have eq_130 := (va_up_ne fl34 (.inl (kJ, 108800, .inr (.inl (vp_updL (bnK fF (Int32.toNatClampNeg i3) (Int32.toNatClampNeg i4)) (Int32.toNatClampNeg z_106) 0)))) (isr_ne fs10_1 fs3_1 (by decide))).trans eq_35
                have eq_131 := (va_up_ne fl34 (.inl (kJ, 108800, .inr (.inl (vp_updL (bnK fF (Int32.toNatClampNeg i3) (Int32.toNatClampNeg i4)) (Int32.toNatClampNeg z_106) 0)))) (isr_ne fs2_1 fs3_1 (by decide))).trans eg_36
                have eq_132 := (va_up_ne fl34 (.inl (kJ, 108800, .inr (.inl (vp_updL (bnK fF (Int32.toNatClampNeg i3) (Int32.toNatClampNeg i4)) (Int32.toNatClampNeg z_106) 0)))) (isr_ne fs4_1 fs3_1 (by decide))).trans eg_38
                have eq_133 := (va_up_ne fl34 (.inl (kJ, 108800, .inr (.inl (vp_updL (bnK fF (Int32.toNatClampNeg i3) (Int32.toNatClampNeg i4)) (Int32.toNatClampNeg z_106) 0)))) (isr_ne fs6_1 fs3_1 (by decide))).trans eg_39
                have hfr := fr_up (S := (sK [12, 13, 14, 16])) (e := .inl (kJ, 108800, .inr (.inl (vp_updL (bnK fF (Int32.toNatClampNeg i3) (Int32.toNatClampNeg i4)) (Int32.toNatClampNeg z_106) 0)))) hfr fs3_1 (by decide)
                generalize hg_f_124 : va_up fl34 s3_1 (.inl (kJ, 108800, .inr (.inl (vp_updL (bnK fF (Int32.toNatClampNeg i3) (Int32.toNatClampNeg i4)) (Int32.toNatClampNeg z_106) 0)))) = f_124 at hP hD hPI es_f_124 eq_125 eq_126 eq_127 eq_128 eq_129 eq_130 eq_131 eq_132 eq_133 hfr
                obtain ⟨i_134, ei_134⟩ : ∃ y : Int32, y = i4 + 1 := ⟨_, rfl⟩
                refine lv_iinc (v := i_134) (lv' := [(4, .int i_134), (3, .int i3), (0, .ref g0), (1, .int c0), (2, .int n0)]) hx hb dX3_born_68 hl (k := 0) rfl (by rw [ei_134]; rfl) (by decide) rfl (fun ls hl => ?_)
                have ki_134 := inc_toInt ei_134 (by omega)
                refine lv_goto (tgt := 34) hx hb dX3_born_71 (by decide) ?_
                exact ih_34 i_134 f_124 _ _ _  (by omega) (by omega) ⟨hfr, ⟨(by rw [cl_succ (by omega) ki_134, ← bnK_step (bv_is (i := i4) (by omega) (by first | exact Or.inl ⟨by omega, rfl⟩ | exact Or.inr ⟨by omega, rfl⟩)), ← hq_i_123]; exact ⟨SV.mk hU fs1_1 fs2_1 fs3_1 eq_126 eq_131 es_f_124, ⟨un_row hU fs4_1 eq_132, un_row hU fs5_1 eq_127⟩, ⟨un_row hU fs8_1 eq_128, un_row hU fs9_1 eq_129, un_row hU fs10_1 eq_130⟩, (by rw [eq_125]; rfl), (by rw [eq_125]; rfl)⟩), ZV.mk hU fs6_1 eq_133⟩⟩ hPI hP hD hS (lv_sub hl [0, 1, 2, 3, 4] rfl)
        exact loop_34 18 0 f_20 _ _ _  (by omega) (by omega) ⟨FR.rf, ⟨(by rw [cl_0, bnK_0]; exact ⟨SV.mk hU fs1_1 fs2_1 fs3_1 eq_22 es_f_20 eq_23, ⟨un_row hU fs4_1 eq_24, un_row hU fs5_1 eq_25⟩, ⟨un_row hU fs8_1 eq_26, un_row hU fs9_1 eq_27, un_row hU fs10_1 eq_28⟩, (by rw [eq_21]; rfl), (by rw [eq_21]; rfl)⟩), ZV.mk hU fs6_1 eq_29⟩⟩ hPI hP hD hS hl
      · have c_5 := mt Int32.toInt_inj.mp c_5
        obtain ⟨i_135, ei_135⟩ : ∃ y : Int32, y = i3 + 1 := ⟨_, rfl⟩
        refine lv_iinc (v := i_135) (lv' := [(3, .int i_135), (0, .ref g0), (1, .int c0), (2, .int n0)]) hx hb dX3_born_11 hl (k := 0) rfl (by rw [ei_135]; rfl) (by decide) rfl (fun ls hl => ?_)
        have ki_135 := inc_toInt ei_135 (by omega)
        refine lv_goto (tgt := 2) hx hb dX3_born_14 (by decide) ?_
        exact ih_2 i_135 f _ _ _  (by omega) (by omega) ⟨rfl, (lf_step hzz (by omega) (z_ne ez_4 (by omega)) ki_135)⟩ hPI hP hD hS (lv_sub hl [0, 1, 2, 3] rfl)
  exact loop_2 6401 0 f _ _ _  (by omega) (by omega) ⟨rfl, (fun j h9 => absurd h9 (by omega))⟩ hPI hP hD hS hl

