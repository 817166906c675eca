set_option maxRecDepth 20000 in
theorem in_g_X3_look_X3 : ∀ w ∈ u_ws RX3 TX3 23, w ∈ wsX3_lookWhatIsHeld := by decide +kernel
set_option maxRecDepth 100000 in
set_option maxHeartbeats 4000000 in
theorem g_X3_look (l : Launch) (dC : Nat → ClassId) (dI : Nat → Nat → Nat) (TT : Nat × Nat × Nat) (sz : Nat) (kI kJ kZ : ClassId) (K : Nat → Nat) (L : List Nat) (f : Nat → va_E) (hPI : PR kI kJ kZ K L f) (g0 : Nat) (hg0 : isr K L 10 g0) (hU : UN K L) (fS fC : Nat → Int32) (fF : Nat → Int64) (hSV : SV kI kJ K L f fS fC fF) : Met l yX3_lookWhatIsHeld wsX3_lookWhatIsHeld ({ frames := 0, cells := 0, slots := 0, locals := 0 } : Room) (va_Pc [.ref g0] (pr dC dI (va_pl L f) (va_pl L f) [(kI, .int), (kJ, .long), (kZ, .boolean)] sz TT)) (va_Qv (fun (u : Unit) => True) (fun (_ : Unit) t => ∃ f2 : Nat → va_E, PR kI kJ kZ K L f2 ∧ (FR (sK [16, 17]) K L f f2 ∧ ∃ z : Nat → Int32, ZV kZ K L f2 z ∧ MK fS fC fF z) ∧ va_P (dC, dI) vwCl (va_pl L f2) t.heap ∧ va_D (va_A (va_pl L f) sz) (va_pl L f2)) (va_A (va_pl L f) sz)) 0 0 (va_A (va_pl L f) sz) := by
  refine Met.ofW (cc := cX3_lookWhatIsHeld) (maxL := 5) (ret := none) (by decide) rfl ?_
  intro p e s m args below meth c s₁ B hml hv
  obtain ⟨rfl, hsz, hP, hK, hD0, hst⟩ := hv
  have hx := B.exec
  have hb := B.bytes
  have hr := B.returns
  have hts := atoms_spec (ws := wsX3_lookWhatIsHeld) B.pre
  have hown : s.vm.findClass RX3 = some m.cls := findClass_of_methodNamed B.named
  have hlocks := B.notSynchronized
  have iX3_ := in_g_X3_look_X3
  subst hsz
  have hD := hD0.self (sz := s.heap.size)
  generalize hAe : va_A (va_pl L f) s.heap.size = A at hD hst ⊢
  have hA : ∀ q : Nat, s.heap.size ≤ q → A q := fun q h => by rw [← hAe]; exact Or.inr h
  have hS : va_S A s.heap s.heap [] := va_S.rf
  have hl := lv_entry ([.ref g0]) (n := 5) (Nat.le_of_ble_eq_true rfl)
  rw [lg_entry_eq]
  generalize (lg_sl ([.ref g0]) ++ List.replicate (5 - (lg_sl ([.ref g0])).length) Slot.unset).toArray = ls at hl ⊢
  have hl : lv_has ls 5 [(0, .ref g0)] := hl
  have km1_ : Int32.toInt (-1) = -1 := by decide
  have k0_ : Int32.toInt 0 = 0 := by decide
  have k1_ : Int32.toInt 1 = 1 := by decide
  have k12_ : Int32.toInt 12 = 12 := by decide
  have k6400_ : Int32.toInt 6400 = 6400 := by decide
  have hfr : FR (sK [16, 17]) K L f f := FR.rf
  refine W_nameQ (fun Q0 eQ => ?_)
  obtain ⟨s1_1, s2_1, s3_1, s4_1, s5_1, s6_1, s7_1, pa_1, lm_1, s8_1, s9_1, s10_1, fm_1, s11_1, nm_1, s12_1, s13_1, s14_1, rm_1, s15_1, s16_1, s17_1, s18_1, e_1, fs1_1, fs2_1, fs3_1, fs4_1, fs5_1, fs6_1, fs7_1, flm_1, fs8_1, fs9_1, fs10_1, ffm_1, fs11_1, fnm_1, fs12_1, fs13_1, fs14_1, frm_1, fs15_1, fs16_1, fs17_1, fs18_1⟩ := hPI.a10 hg0
  obtain ⟨k_1, hk_1⟩ := va_plg hg0.1 e_1
  have eg11 := hSV.1 s1_1 fs1_1
  have fg11 := (hPI.a11 fs1_1).of eg11
  have eg12 := hSV.2.1 s2_1 fs2_1
  have fg12 := (hPI.a12 fs2_1).of eg12
  have eg13 := hSV.2.2 s3_1 fs3_1
  have fg13 := (hPI.a13 fs3_1).of eg13
  obtain ⟨g_2, e_2, fg_2⟩ := hPI.a16 fs6_1
  obtain ⟨k_2, hk_2⟩ := va_plg fs6_1.1 e_2
  refine lv_iconst (v := 0) hx hb dX3_lookWhatIsHeld_0 (by decide) ?_
  refine lv_istore_n (lv' := [(1, .int 0), (0, .ref g0)]) hx hb dX3_lookWhatIsHeld_1 rfl hl (by decide) rfl (fun ls hl => ?_)
  have hfrE2 := hfr
  have loop_2 : ∀ (n : Nat) (i1 : Int32)   (fl : Nat → va_E) (H : Heap) (locs : List Loc) (ls : Array Slot), (0 ≤ i1.toInt ∧ i1.toInt ≤ 6400) → (6400 - i1.toInt).toNat < n → (FR (sK [16, 17]) K L f fl ∧ (∃ z : Nat → Int32, ZV kZ K L fl z ∧ ∀ j : Nat, (j : Int) < i1.toInt → z j = 0)) → PR kI kJ kZ K L fl → va_P (dC, dI) vwCl (va_pl L fl) H → va_D A (va_pl L fl) → va_S A s.heap H locs → lv_has ls 5 [(1, .int i1), (0, .ref g0)] → W p l e (headSpec wsX3_lookWhatIsHeld ({ frames := 0, cells := 0, slots := 0, locals := 0 } : Room)).room s m (([.ref g0] : List Value).toArray) below meth c H locs 0 0 Q0 (F0 m 2 ls []) := by
    intro n
    induction n with
    | zero => intro i1 fl H locs ls  _ h9; exact absurd h9 (Nat.not_lt_zero _)
    | succ n ih_2 =>
      intro i1 fl H locs ls  hI hM hFN hPI hP hD hS hl
      obtain ⟨hfr, hFN⟩ := hFN
      have eq_3 := (hfr g0 hg0.1 (by rw [hg0.2]; rfl)).trans e_1
      have eq_4 := (hfr s1_1 fs1_1.1 (by rw [fs1_1.2]; rfl)).trans eg11
      have eq_5 := (hfr s2_1 fs2_1.1 (by rw [fs2_1.2]; rfl)).trans eg12
      have eq_6 := (hfr s3_1 fs3_1.1 (by rw [fs3_1.2]; rfl)).trans eg13
      obtain ⟨zA, hZV, hz0⟩ := hFN
      have ezA := hZV s6_1 fs6_1
      have fzA := (hPI.a16 fs6_1).of ezA
      refine lv_iload_n hx hb dX3_lookWhatIsHeld_2 rfl (lv_at hl 0 rfl) ?_
      refine lv_sipush (v := 6400) hx hb dX3_lookWhatIsHeld_3 (by decide) ?_
      refine lv_icmp_ge (tgt := 22) hx hb dX3_lookWhatIsHeld_6 (by decide) (fun c_7 => ?_) (fun c_7 => ?_)
      · have c_7 := Int32.le_iff_toInt_le.mp c_7
        refine lv_iconst (v := 0) hx hb dX3_lookWhatIsHeld_22 (by decide) ?_
        refine lv_istore_n (lv' := [(1, .int 0), (0, .ref g0)]) hx hb dX3_lookWhatIsHeld_23 rfl hl (by decide) rfl (fun ls hl => ?_)
        refine lv_iconst (v := 0) hx hb dX3_lookWhatIsHeld_24 (by decide) ?_
        refine lv_istore_n (lv' := [(2, .int 0), (1, .int 0), (0, .ref g0)]) hx hb dX3_lookWhatIsHeld_25 rfl hl (by decide) rfl (fun ls hl => ?_)
        have hfrE26 := hfr
        obtain ⟨g_8, e_8, fg_8⟩ := hPI.a17 fs7_1
        obtain ⟨k_8, hk_8⟩ := va_plg fs7_1.1 e_8
        have loop_26 : ∀ (n26 : Nat) (t1 : Int32) (i2 : Int32)   (fl26 : Nat → va_E) (H : Heap) (locs : List Loc) (ls : Array Slot), (0 ≤ i2.toInt ∧ i2.toInt ≤ 12) → (12 - i2.toInt).toNat < n26 → (FR (sK [16, 17]) K L fl fl26 ∧ (∃ z p : Nat → Int32, ZV kZ K L fl26 z ∧ PV kI K L fl26 p ∧ WL fS fC fF z p t1.toInt i2.toInt 6400 0)) → PR kI kJ kZ K L fl26 → va_P (dC, dI) vwCl (va_pl L fl26) H → va_D A (va_pl L fl26) → va_S A s.heap H locs → lv_has ls 5 [(2, .int i2), (1, .int t1), (0, .ref g0)] → W p l e (headSpec wsX3_lookWhatIsHeld ({ frames := 0, cells := 0, slots := 0, locals := 0 } : Room)).room s m (([.ref g0] : List Value).toArray) below meth c H locs 0 0 Q0 (F0 m 26 ls []) := by
          intro n26
          induction n26 with
          | zero => intro t1 i2 fl26 H locs ls  _ h9; exact absurd h9 (Nat.not_lt_zero _)
          | succ n26 ih_26 =>
            intro t1 i2 fl26 H locs ls  hI hM hFN hPI hP hD hS hl
            obtain ⟨hfr, hFN⟩ := hFN
            have eq_9 := (hfr g0 hg0.1 (by rw [hg0.2]; rfl)).trans eq_3
            have eq_10 := (hfr s1_1 fs1_1.1 (by rw [fs1_1.2]; rfl)).trans eq_4
            have eq_11 := (hfr s2_1 fs2_1.1 (by rw [fs2_1.2]; rfl)).trans eq_5
            have eq_12 := (hfr s3_1 fs3_1.1 (by rw [fs3_1.2]; rfl)).trans eq_6
            obtain ⟨zB, pB, hZV, hPV, hW⟩ := hFN
            have ezB := hZV s6_1 fs6_1
            have fzB := (hPI.a16 fs6_1).of ezB
            have epB := hPV s7_1 fs7_1
            have fpB := (hPI.a17 fs7_1).of epB
            have hW1 := hW.1
            refine lv_iload_n hx hb dX3_lookWhatIsHeld_26 rfl (lv_at hl 0 rfl) ?_
            refine lv_bipush (v := 12) hx hb dX3_lookWhatIsHeld_27 (by decide) ?_
            refine lv_icmp_ge (tgt := 89) hx hb dX3_lookWhatIsHeld_29 (by decide) (fun c_13 => ?_) (fun c_13 => ?_)
            · have c_13 := Int32.le_iff_toInt_le.mp c_13
              sorry
            · have c_13 := mt Int32.le_iff_toInt_le.mpr c_13
              refine lv_aload_n hx hb dX3_lookWhatIsHeld_32 rfl (lv_at hl 2 rfl) ?_
              obtain ⟨k_14, hk_14⟩ := va_plg hg0.1 eq_9
              refine va_get (D := (dC, dI)) (ci := 3) (v := .ref s1_1) (C := RX3) (T := TX3) (N := 23) hx hb hts iX3_ hown hK hP k_14 hk_14 rfl 0 (by decide) (hts (.fieldLink RX3 7 "FieldLeavesModel" "slot" "[I") (by decide +kernel)) (fun _ h9 => h9) rfl dX3_lookWhatIsHeld_33 ?_
              refine lv_iload_n hx hb dX3_lookWhatIsHeld_36 rfl (lv_at hl 0 rfl) ?_
              obtain ⟨k_15, hk_15⟩ := va_plg fs1_1.1 eq_10
              have h_15 : vp_in i2 12 := (vp_in_iff.mpr (by constructor <;> omega))
              refine va_iald hx hb hK hP k_15 0 hk_15 rfl h_15 dX3_lookWhatIsHeld_37 ?_
              refine lv_topi (fun z_15 ez_15 => ?_)
              have fz_15 := fg11 _ (vp_lt h_15)
              rw [← ez_15] at fz_15
              refine lv_iconst (v := (-1)) hx hb dX3_lookWhatIsHeld_38 (by decide) ?_
              refine lv_icmp_eq (tgt := 83) hx hb dX3_lookWhatIsHeld_39 (by decide) (fun c_16 => ?_) (fun c_16 => ?_)
              · have c_16 := congrArg Int32.toInt c_16
                obtain ⟨i_17, ei_17⟩ : ∃ y : Int32, y = i2 + 1 := ⟨_, rfl⟩
                refine lv_iinc (v := i_17) (lv' := [(2, .int i_17), (1, .int t1), (0, .ref g0)]) hx hb dX3_lookWhatIsHeld_83 hl (k := 0) rfl (by rw [ei_17]; rfl) (by decide) rfl (fun ls hl => ?_)
                have ki_17 := inc_toInt ei_17 (by omega)
                refine lv_goto (tgt := 26) hx hb dX3_lookWhatIsHeld_86 (by decide) ?_
                exact ih_26 t1 i_17 fl26 _ _ _  (by omega) (by omega) ⟨hfr, ⟨_, _, ZV.mk hU fs6_1 ezB, PV.mk hU fs7_1 epB, by rw [ki_17]; exact wl_slot hW (clamp_int (i := i2) (by omega)) (fun h9 => absurd (by rw [← ez_15]; omega) h9)⟩⟩ hPI hP hD hS (lv_sub hl [0, 1, 2] rfl)
              · have c_16 := mt Int32.toInt_inj.mp c_16
                refine lv_aload_n hx hb dX3_lookWhatIsHeld_42 rfl (lv_at hl 2 rfl) ?_
                obtain ⟨k_18, hk_18⟩ := va_plg hg0.1 eq_9
                refine va_get (D := (dC, dI)) (ci := 3) (v := .ref s6_1) (C := RX3) (T := TX3) (N := 23) hx hb hts iX3_ hown hK hP k_18 hk_18 rfl 5 (by decide) (hts (.fieldLink RX3 28 "FieldLeavesModel" "isHeld" "[Z") (by decide +kernel)) (fun _ h9 => h9) rfl dX3_lookWhatIsHeld_43 ?_
                refine lv_aload_n hx hb dX3_lookWhatIsHeld_46 rfl (lv_at hl 2 rfl) ?_
                obtain ⟨k_19, hk_19⟩ := va_plg hg0.1 eq_9
                refine va_get (D := (dC, dI)) (ci := 3) (v := .ref s1_1) (C := RX3) (T := TX3) (N := 23) hx hb hts iX3_ hown hK hP k_19 hk_19 rfl 0 (by decide) (hts (.fieldLink RX3 7 "FieldLeavesModel" "slot" "[I") (by decide +kernel)) (fun _ h9 => h9) rfl dX3_lookWhatIsHeld_47 ?_
                refine lv_iload_n hx hb dX3_lookWhatIsHeld_50 rfl (lv_at hl 0 rfl) ?_
                obtain ⟨k_20, hk_20⟩ := va_plg fs1_1.1 eq_10
                have h_20 : vp_in i2 12 := (vp_in_iff.mpr (by constructor <;> omega))
                refine va_iald hx hb hK hP k_20 0 hk_20 rfl h_20 dX3_lookWhatIsHeld_51 ?_
                refine lv_topi (fun z_20 ez_20 => ?_)
                obtain rfl : z_15 = z_20 := ez_15.trans ez_20.symm
                obtain ⟨k_21, hk_21⟩ := va_plg fs6_1.1 ezB
                have h_21 : vp_in z_15 6400 := (vp_in_iff.mpr (by constructor <;> omega))
                refine va_zald hx hb hK hP k_21 2 hk_21 rfl h_21 dX3_lookWhatIsHeld_52 ?_
                refine lv_topi (fun z_21 ez_21 => ?_)
                refine lv_if_ne (tgt := 83) hx hb dX3_lookWhatIsHeld_53 (by decide) (fun c_22 => ?_) (fun c_22 => ?_)
                · have c_22 := mt Int32.toInt_inj.mp c_22
                  obtain ⟨i_23, ei_23⟩ : ∃ y : Int32, y = i2 + 1 := ⟨_, rfl⟩
                  refine lv_iinc (v := i_23) (lv' := [(2, .int i_23), (1, .int t1), (0, .ref g0)]) hx hb dX3_lookWhatIsHeld_83 hl (k := 0) rfl (by rw [ei_23]; rfl) (by decide) rfl (fun ls hl => ?_)
                  have ki_23 := inc_toInt ei_23 (by omega)
                  refine lv_goto (tgt := 26) hx hb dX3_lookWhatIsHeld_86 (by decide) ?_
                  exact ih_26 t1 i_23 fl26 _ _ _  (by omega) (by omega) ⟨hfr, ⟨_, _, ZV.mk hU fs6_1 ezB, PV.mk hU fs7_1 epB, by rw [ki_23]; exact wl_slot hW (clamp_int (i := i2) (by omega)) (fun _ => by rw [← ez_15]; exact z_ne ez_21 (by omega))⟩⟩ hPI hP hD hS (lv_sub hl [0, 1, 2] rfl)
                · have c_22 := congrArg Int32.toInt c_22
                  have hz9 := z_of ez_21 (by omega)
                  have hx9 : Int32.toNatClampNeg z_15 < 6400 := vp_lt (vp_in_iff.mpr (by constructor <;> omega))
                  have hrm := wl_room hW hx9 hz9
                  refine lv_aload_n hx hb dX3_lookWhatIsHeld_56 rfl (lv_at hl 2 rfl) ?_
                  obtain ⟨k_24, hk_24⟩ := va_plg hg0.1 eq_9
                  refine va_get (D := (dC, dI)) (ci := 3) (v := .ref s6_1) (C := RX3) (T := TX3) (N := 23) hx hb hts iX3_ hown hK hP k_24 hk_24 rfl 5 (by decide) (hts (.fieldLink RX3 28 "FieldLeavesModel" "isHeld" "[Z") (by decide +kernel)) (fun _ h9 => h9) rfl dX3_lookWhatIsHeld_57 ?_
                  refine lv_aload_n hx hb dX3_lookWhatIsHeld_60 rfl (lv_at hl 2 rfl) ?_
                  obtain ⟨k_25, hk_25⟩ := va_plg hg0.1 eq_9
                  refine va_get (D := (dC, dI)) (ci := 3) (v := .ref s1_1) (C := RX3) (T := TX3) (N := 23) hx hb hts iX3_ hown hK hP k_25 hk_25 rfl 0 (by decide) (hts (.fieldLink RX3 7 "FieldLeavesModel" "slot" "[I") (by decide +kernel)) (fun _ h9 => h9) rfl dX3_lookWhatIsHeld_61 ?_
                  refine lv_iload_n hx hb dX3_lookWhatIsHeld_64 rfl (lv_at hl 0 rfl) ?_
                  obtain ⟨k_26, hk_26⟩ := va_plg fs1_1.1 eq_10
                  have h_26 : vp_in i2 12 := (vp_in_iff.mpr (by constructor <;> omega))
                  refine va_iald hx hb hK hP k_26 0 hk_26 rfl h_26 dX3_lookWhatIsHeld_65 ?_
                  refine lv_topi (fun z_26 ez_26 => ?_)
                  obtain rfl : z_15 = z_26 := ez_15.trans ez_26.symm
                  refine lv_iconst (v := 1) hx hb dX3_lookWhatIsHeld_66 (by decide) ?_
                  obtain ⟨k_27, hk_27⟩ := va_plg fs6_1.1 ezB
                  have h_27 : vp_in z_15 6400 := (vp_in_iff.mpr (by constructor <;> omega))
                  have fw_27 := trivial
                  have hD9 := hD
                  refine va_zast hx hb hK hP hD hS k_27 2 hk_27 rfl h_27 dX3_lookWhatIsHeld_67 (fun H locs hP hD hS => ?_)
                  have hP : va_P (dC, dI) vwCl (va_pl L (va_up fl26 s6_1 (.inl (kZ, 6400, .inl (upd zB (Int32.toNatClampNeg z_15) (vp_nar .boolean 1)))))) H := by rw [← va_pls hD9 fs6_1.1 hk_27 _]; exact hP
                  have hD : va_D A (va_pl L (va_up fl26 s6_1 (.inl (kZ, 6400, .inl (upd zB (Int32.toNatClampNeg z_15) (vp_nar .boolean 1)))))) := by rw [← va_pls hD9 fs6_1.1 hk_27 _]; exact hD
                  have hPI := hPI.put (e := .inl (kZ, 6400, .inl (upd zB (Int32.toNatClampNeg z_15) (vp_nar .boolean 1)))) fs6_1 ⟨_, rfl, fw_27⟩
                  have es_f_28 : va_up fl26 s6_1 (.inl (kZ, 6400, .inl (upd zB (Int32.toNatClampNeg z_15) (vp_nar .boolean 1)))) s6_1 = .inl (kZ, 6400, .inl (upd zB (Int32.toNatClampNeg z_15) (vp_nar .boolean 1))) := va_up_self _ _ _
                  have eq_29 := (va_up_ne fl26 (.inl (kZ, 6400, .inl (upd zB (Int32.toNatClampNeg z_15) (vp_nar .boolean 1)))) (isr_ne hg0 fs6_1 (by decide))).trans eq_9
                  have eq_30 := (va_up_ne fl26 (.inl (kZ, 6400, .inl (upd zB (Int32.toNatClampNeg z_15) (vp_nar .boolean 1)))) (isr_ne fs1_1 fs6_1 (by decide))).trans eq_10
                  have eq_31 := (va_up_ne fl26 (.inl (kZ, 6400, .inl (upd zB (Int32.toNatClampNeg z_15) (vp_nar .boolean 1)))) (isr_ne fs2_1 fs6_1 (by decide))).trans eq_11
                  have eq_32 := (va_up_ne fl26 (.inl (kZ, 6400, .inl (upd zB (Int32.toNatClampNeg z_15) (vp_nar .boolean 1)))) (isr_ne fs3_1 fs6_1 (by decide))).trans eq_12
                  have eq_33 := (va_up_ne fl26 (.inl (kZ, 6400, .inl (upd zB (Int32.toNatClampNeg z_15) (vp_nar .boolean 1)))) (isr_ne fs7_1 fs6_1 (by decide))).trans epB
                  have hfr := fr_up (S := (sK [16, 17])) (e := .inl (kZ, 6400, .inl (upd zB (Int32.toNatClampNeg z_15) (vp_nar .boolean 1)))) hfr fs6_1 (by decide)
                  generalize va_up fl26 s6_1 (.inl (kZ, 6400, .inl (upd zB (Int32.toNatClampNeg z_15) (vp_nar .boolean 1)))) = f_28 at hP hD hPI es_f_28 eq_29 eq_30 eq_31 eq_32 eq_33 hfr
                  refine lv_aload_n hx hb dX3_lookWhatIsHeld_68 rfl (lv_at hl 2 rfl) ?_
                  obtain ⟨k_34, hk_34⟩ := va_plg hg0.1 eq_29
                  refine va_get (D := (dC, dI)) (ci := 3) (v := .ref s7_1) (C := RX3) (T := TX3) (N := 23) hx hb hts iX3_ hown hK hP k_34 hk_34 rfl 6 (by decide) (hts (.fieldLink RX3 32 "FieldLeavesModel" "pile" "[I") (by decide +kernel)) (fun _ h9 => h9) rfl dX3_lookWhatIsHeld_69 ?_
                  refine lv_iload_n hx hb dX3_lookWhatIsHeld_72 rfl (lv_at hl 1 rfl) ?_
                  refine lv_aload_n hx hb dX3_lookWhatIsHeld_73 rfl (lv_at hl 2 rfl) ?_
                  obtain ⟨k_35, hk_35⟩ := va_plg hg0.1 eq_29
                  refine va_get (D := (dC, dI)) (ci := 3) (v := .ref s1_1) (C := RX3) (T := TX3) (N := 23) hx hb hts iX3_ hown hK hP k_35 hk_35 rfl 0 (by decide) (hts (.fieldLink RX3 7 "FieldLeavesModel" "slot" "[I") (by decide +kernel)) (fun _ h9 => h9) rfl dX3_lookWhatIsHeld_74 ?_
                  refine lv_iload_n hx hb dX3_lookWhatIsHeld_77 rfl (lv_at hl 0 rfl) ?_
                  obtain ⟨k_36, hk_36⟩ := va_plg fs1_1.1 eq_30
                  have h_36 : vp_in i2 12 := (vp_in_iff.mpr (by constructor <;> omega))
                  refine va_iald hx hb hK hP k_36 0 hk_36 rfl h_36 dX3_lookWhatIsHeld_78 ?_
                  refine lv_topi (fun z_36 ez_36 => ?_)
                  obtain rfl : z_15 = z_36 := ez_15.trans ez_36.symm
                  obtain ⟨k_37, hk_37⟩ := va_plg fs7_1.1 eq_33
                  have h_37 : vp_in t1 6400 := (vp_in_iff.mpr (by constructor <;> omega))
                  have fw_37 := updS (P := fun v => 0 ≤ v.toInt ∧ v.toInt < 6400) (k := Int32.toNatClampNeg t1) (v := z_15) fpB (by omega)
                  have hD9 := hD
                  refine va_iast hx hb hK hP hD hS k_37 0 hk_37 rfl h_37 dX3_lookWhatIsHeld_79 (fun H locs hP hD hS => ?_)
                  have hP : va_P (dC, dI) vwCl (va_pl L (va_up f_28 s7_1 (.inl (kI, 6400, .inl (upd pB (Int32.toNatClampNeg t1) z_15))))) H := by rw [← va_pls hD9 fs7_1.1 hk_37 _]; exact hP
                  have hD : va_D A (va_pl L (va_up f_28 s7_1 (.inl (kI, 6400, .inl (upd pB (Int32.toNatClampNeg t1) z_15))))) := by rw [← va_pls hD9 fs7_1.1 hk_37 _]; exact hD
                  have hPI := hPI.put (e := .inl (kI, 6400, .inl (upd pB (Int32.toNatClampNeg t1) z_15))) fs7_1 ⟨_, rfl, fw_37⟩
                  have es_f_38 : va_up f_28 s7_1 (.inl (kI, 6400, .inl (upd pB (Int32.toNatClampNeg t1) z_15))) s7_1 = .inl (kI, 6400, .inl (upd pB (Int32.toNatClampNeg t1) z_15)) := va_up_self _ _ _
                  have eq_39 := (va_up_ne f_28 (.inl (kI, 6400, .inl (upd pB (Int32.toNatClampNeg t1) z_15))) (isr_ne hg0 fs7_1 (by decide))).trans eq_29
                  have eq_40 := (va_up_ne f_28 (.inl (kI, 6400, .inl (upd pB (Int32.toNatClampNeg t1) z_15))) (isr_ne fs1_1 fs7_1 (by decide))).trans eq_30
                  have eq_41 := (va_up_ne f_28 (.inl (kI, 6400, .inl (upd pB (Int32.toNatClampNeg t1) z_15))) (isr_ne fs2_1 fs7_1 (by decide))).trans eq_31
                  have eq_42 := (va_up_ne f_28 (.inl (kI, 6400, .inl (upd pB (Int32.toNatClampNeg t1) z_15))) (isr_ne fs3_1 fs7_1 (by decide))).trans eq_32
                  have eq_43 := (va_up_ne f_28 (.inl (kI, 6400, .inl (upd pB (Int32.toNatClampNeg t1) z_15))) (isr_ne fs6_1 fs7_1 (by decide))).trans es_f_28
                  have hfr := fr_up (S := (sK [16, 17])) (e := .inl (kI, 6400, .inl (upd pB (Int32.toNatClampNeg t1) z_15))) hfr fs7_1 (by decide)
                  generalize va_up f_28 s7_1 (.inl (kI, 6400, .inl (upd pB (Int32.toNatClampNeg t1) z_15))) = f_38 at hP hD hPI es_f_38 eq_39 eq_40 eq_41 eq_42 eq_43 hfr
                  obtain ⟨i_44, ei_44⟩ : ∃ y : Int32, y = t1 + 1 := ⟨_, rfl⟩
                  refine lv_iinc (v := i_44) (lv' := [(1, .int i_44), (2, .int i2), (0, .ref g0)]) hx hb dX3_lookWhatIsHeld_80 hl (k := 1) rfl (by rw [ei_44]; rfl) (by decide) rfl (fun ls hl => ?_)
                  have ki_44 := inc_toInt ei_44 (by omega)
                  obtain ⟨i_45, ei_45⟩ : ∃ y : Int32, y = i2 + 1 := ⟨_, rfl⟩
                  refine lv_iinc (v := i_45) (lv' := [(2, .int i_45), (1, .int i_44), (0, .ref g0)]) hx hb dX3_lookWhatIsHeld_83 hl (k := 1) rfl (by rw [ei_45]; rfl) (by decide) rfl (fun ls hl => ?_)
                  have ki_45 := inc_toInt ei_45 (by omega)
                  refine lv_goto (tgt := 26) hx hb dX3_lookWhatIsHeld_86 (by decide) ?_
                  exact ih_26 i_44 i_45 f_38 _ _ _  (by omega) (by omega) ⟨hfr, ⟨_, _, ZV.mk hU fs6_1 eq_43, PV.mk hU fs7_1 es_f_38, by rw [ki_45, ki_44]; exact wl_slot (wl_push hW (x := Int32.toNatClampNeg z_15) hx9 hz9 nz1 (clamp_int (by omega)).symm (fun P hP => by have h8 := hP.1 _ (vp_lt (vp_in_iff.mpr (by constructor <;> omega) : vp_in i2 12)) (by rw [← ez_15]; omega); rw [← ez_15] at h8; exact h8)) (clamp_int (i := i2) (by omega)) (fun _ => by rw [← ez_15]; show upd zB (Int32.toNatClampNeg z_15) _ (Int32.toNatClampNeg z_15) ≠ 0; rw [pk_us]; exact nz1)⟩⟩ hPI hP hD hS (lv_sub hl [0, 1, 2] rfl)
        exact loop_26 13 0 0 fl _ _ _  (by omega) (by omega) ⟨FR.rf, ⟨_, _, ZV.mk hU fs6_1 ezA, PV.mk hU fs7_1 e_8, by rw [k0_]; exact wl_0 (fun j hj => hz0 j (by omega))⟩⟩ hPI hP hD hS hl
      · have c_7 := mt Int32.le_iff_toInt_le.mpr c_7
        refine lv_aload_n hx hb dX3_lookWhatIsHeld_9 rfl (lv_at hl 1 rfl) ?_
        obtain ⟨k_46, hk_46⟩ := va_plg hg0.1 eq_3
        refine va_get (D := (dC, dI)) (ci := 3) (v := .ref s6_1) (C := RX3) (T := TX3) (N := 23) hx hb hts iX3_ hown hK hP k_46 hk_46 rfl 5 (by decide) (hts (.fieldLink RX3 28 "FieldLeavesModel" "isHeld" "[Z") (by decide +kernel)) (fun _ h9 => h9) rfl dX3_lookWhatIsHeld_10 ?_
        refine lv_iload_n hx hb dX3_lookWhatIsHeld_13 rfl (lv_at hl 0 rfl) ?_
        refine lv_iconst (v := 0) hx hb dX3_lookWhatIsHeld_14 (by decide) ?_
        obtain ⟨k_47, hk_47⟩ := va_plg fs6_1.1 ezA
        have h_47 : vp_in i1 6400 := (vp_in_iff.mpr (by constructor <;> omega))
        have fw_47 := trivial
        have hD9 := hD
        refine va_zast hx hb hK hP hD hS k_47 2 hk_47 rfl h_47 dX3_lookWhatIsHeld_15 (fun H locs hP hD hS => ?_)
        have hP : va_P (dC, dI) vwCl (va_pl L (va_up fl s6_1 (.inl (kZ, 6400, .inl (upd zA (Int32.toNatClampNeg i1) (vp_nar .boolean 0)))))) H := by rw [← va_pls hD9 fs6_1.1 hk_47 _]; exact hP
        have hD : va_D A (va_pl L (va_up fl s6_1 (.inl (kZ, 6400, .inl (upd zA (Int32.toNatClampNeg i1) (vp_nar .boolean 0)))))) := by rw [← va_pls hD9 fs6_1.1 hk_47 _]; exact hD
        have hPI := hPI.put (e := .inl (kZ, 6400, .inl (upd zA (Int32.toNatClampNeg i1) (vp_nar .boolean 0)))) fs6_1 ⟨_, rfl, fw_47⟩
        have es_f_48 : va_up fl s6_1 (.inl (kZ, 6400, .inl (upd zA (Int32.toNatClampNeg i1) (vp_nar .boolean 0)))) s6_1 = .inl (kZ, 6400, .inl (upd zA (Int32.toNatClampNeg i1) (vp_nar .boolean 0))) := va_up_self _ _ _
        have eq_49 := (va_up_ne fl (.inl (kZ, 6400, .inl (upd zA (Int32.toNatClampNeg i1) (vp_nar .boolean 0)))) (isr_ne hg0 fs6_1 (by decide))).trans eq_3
        have eq_50 := (va_up_ne fl (.inl (kZ, 6400, .inl (upd zA (Int32.toNatClampNeg i1) (vp_nar .boolean 0)))) (isr_ne fs1_1 fs6_1 (by decide))).trans eq_4
        have eq_51 := (va_up_ne fl (.inl (kZ, 6400, .inl (upd zA (Int32.toNatClampNeg i1) (vp_nar .boolean 0)))) (isr_ne fs2_1 fs6_1 (by decide))).trans eq_5
        have eq_52 := (va_up_ne fl (.inl (kZ, 6400, .inl (upd zA (Int32.toNatClampNeg i1) (vp_nar .boolean 0)))) (isr_ne fs3_1 fs6_1 (by decide))).trans eq_6
        have hfr := fr_up (S := (sK [16, 17])) (e := .inl (kZ, 6400, .inl (upd zA (Int32.toNatClampNeg i1) (vp_nar .boolean 0)))) hfr fs6_1 (by decide)
        generalize va_up fl s6_1 (.inl (kZ, 6400, .inl (upd zA (Int32.toNatClampNeg i1) (vp_nar .boolean 0)))) = f_48 at hP hD hPI es_f_48 eq_49 eq_50 eq_51 eq_52 hfr
        obtain ⟨i_53, ei_53⟩ : ∃ y : Int32, y = i1 + 1 := ⟨_, rfl⟩
        refine lv_iinc (v := i_53) (lv' := [(1, .int i_53), (0, .ref g0)]) hx hb dX3_lookWhatIsHeld_16 hl (k := 0) rfl (by rw [ei_53]; rfl) (by decide) rfl (fun ls hl => ?_)
        have ki_53 := inc_toInt ei_53 (by omega)
        refine lv_goto (tgt := 2) hx hb dX3_lookWhatIsHeld_19 (by decide) ?_
        exact ih_2 i_53 f_48 _ _ _  (by omega) (by omega) ⟨hfr, ⟨_, ZV.mk hU fs6_1 es_f_48, zi_step hz0 (by omega) ki_53⟩⟩ hPI hP hD hS (lv_sub hl [0, 1] rfl)
  exact loop_2 6401 0 f _ _ _  (by omega) (by omega) ⟨FR.rf, ⟨_, ZV.mk hU fs6_1 e_2, fun j h9 => absurd h9 (by omega)⟩⟩ hPI hP hD hS hl
