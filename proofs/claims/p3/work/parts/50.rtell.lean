set_option maxRecDepth 20000 in
theorem in_q_X3_tellObject_X3 : ∀ w ∈ u_ws RX3 TX3 23, w ∈ wsX3_tellObject := by decide +kernel
set_option maxRecDepth 100000 in
set_option maxHeartbeats 4000000 in
theorem q_X3_tellObject (l : Launch) (dC : Nat → ClassId) (dI : Nat → Nat → Nat) (TT : Nat × Nat × Nat) (sz : Nat) (kI kJ kZ : ClassId) (K : Nat → Nat) (L : List Nat) (f : Nat → va_E) (hPI : PR kI kJ kZ K L f) (g0 : Nat) (hg0 : isr K L 10 g0) (k0 o0 : Int32) (hk0 : 0 ≤ k0.toInt ∧ k0.toInt < 24) (ho0 : 0 ≤ o0.toInt ∧ o0.toInt < 6400) (hU : UN K L) (hXL : XL kI kJ K L f 23 24) : Met l yX3_tellObject wsX3_tellObject ({ frames := 1, cells := 0, slots := 0, locals := 24 } : Room) (va_Pc [.ref g0, .int k0, .int o0] (pr dC dI (va_pl L f) (va_pl L f) [(kI, .int), (kJ, .long), (kZ, .boolean)] sz TT)) (va_Qv (fun (u : Unit) => True) (fun (_ : Unit) t => ∃ f2 : Nat → va_E, PR kI kJ kZ K L f2 ∧ (FR (sK [10, 22, 23, 24]) K L f f2 ∧ XL kI kJ K L f2 23 24) ∧ va_P (dC, dI) vwCl (va_pl L f2) t.heap ∧ va_D (va_A (va_pl L f) sz) (va_pl L f2)) (va_A (va_pl L f) sz)) 0 0 (va_A (va_pl L f) sz) := by
  refine Met.ofW (cc := cX3_tellObject) (maxL := 7) (ret := none) (by decide) rfl ?_
  intro p e s m args below meth c s₁ B hml hv
  obtain ⟨rfl, hsz, hP, hK, hD0, hst⟩ := hv
  have hx := B.exec
  have hb := B.bytes
  have hr := B.returns
  have hts := atoms_spec (ws := wsX3_tellObject) B.pre
  have hown : s.vm.findClass RX3 = some m.cls := findClass_of_methodNamed B.named
  have hlocks := B.notSynchronized
  have iX3_ := in_q_X3_tellObject_X3
  subst hsz
  have hD := hD0.self (sz := s.heap.size)
  generalize hAe : va_A (va_pl L f) s.heap.size = A at hD hst ⊢
  have hA : ∀ q : Nat, s.heap.size ≤ q → A q := fun q h => by rw [← hAe]; exact Or.inr h
  have hS : va_S A s.heap s.heap [] := va_S.rf
  have hl := lv_entry ([.ref g0, .int k0, .int o0]) (n := 7) (Nat.le_of_ble_eq_true rfl)
  rw [lg_entry_eq]
  generalize (lg_sl ([.ref g0, .int k0, .int o0]) ++ List.replicate (7 - (lg_sl ([.ref g0, .int k0, .int o0])).length) Slot.unset).toArray = ls at hl ⊢
  have hl : lv_has ls 7 [(0, .ref g0), (1, .int k0), (2, .int o0)] := hl
  have km1_ : Int32.toInt (-1) = -1 := by decide
  have k0_ : Int32.toInt 0 = 0 := by decide
  have k9_ : Int32.toInt 9 = 9 := by decide
  have k17_ : Int32.toInt 17 = 17 := by decide
  have k100_ : Int32.toInt 100 = 100 := by decide
  have klm1_ : Int64.toInt (-1) = -1 := by decide
  have kl0_ : Int64.toInt 0 = 0 := by decide
  have hfr : FR (sK [10, 22, 23, 24]) K L f f := FR.rf
  refine W_nameQ (fun Q0 eQ => ?_)
  refine lv_aload_n hx hb dX3_tellObject_0 rfl (lv_at hl 0 rfl) ?_
  refine lv_iload_n hx hb dX3_tellObject_1 rfl (lv_at hl 1 rfl) ?_
  refine lv_iconst (v := (-1)) hx hb dX3_tellObject_2 (by decide) ?_
  refine lv_aload_n hx hb dX3_tellObject_3 rfl (lv_at hl 0 rfl) ?_
  obtain ⟨s1_1, s2_1, s3_1, s4_1, s5_1, s6_1, s7_1, pa_1, lm_1, s8_1, s9_1, s10_1, fm_1, s11_1, nm_1, s12_1, s13_1, s14_1, rm_1, s15_1, s16_1, s17_1, s18_1, e_1, fs1_1, fs2_1, fs3_1, fs4_1, fs5_1, fs6_1, fs7_1, flm_1, fs8_1, fs9_1, fs10_1, ffm_1, fs11_1, fnm_1, fs12_1, fs13_1, fs14_1, frm_1, fs15_1, fs16_1, fs17_1, fs18_1⟩ := hPI.a10 hg0
  obtain ⟨k_1, hk_1⟩ := va_plg hg0.1 e_1
  refine va_get (D := (dC, dI)) (ci := 3) (v := .ref s2_1) (C := RX3) (T := TX3) (N := 23) hx hb hts iX3_ hown hK hP k_1 hk_1 rfl 1 (by decide) (hts (.fieldLink RX3 13 "FieldLeavesModel" "classOf" "[I") (by decide +kernel)) (fun _ h9 => h9) rfl dX3_tellObject_4 ?_
  refine lv_iload_n hx hb dX3_tellObject_7 rfl (lv_at hl 2 rfl) ?_
  obtain ⟨g_2, e_2, fg_2⟩ := hPI.a12 fs2_1
  obtain ⟨k_2, hk_2⟩ := va_plg fs2_1.1 e_2
  have h_2 : vp_in o0 6400 := (vp_in_iff.mpr (by constructor <;> omega))
  refine va_iald hx hb hK hP k_2 0 hk_2 rfl h_2 dX3_tellObject_8 ?_
  refine lv_topi (fun z_2 ez_2 => ?_)
  refine lv_i2l (v := Int32.toInt64 z_2) hx hb dX3_tellObject_9 rfl ?_
  have k_z_3 := Int32.toInt_toInt64 z_2
  have hFc := pl_free hD hS hA
  obtain ⟨k_4, hk_4⟩ := va_plg hg0.1 e_1
  refine va_callv (va_runV (b := g0) (As := [.int k0, .int (-1), .long (Int32.toInt64 z_2)]) (rest := []) ⟨hx, hb, hml, hown, hts⟩ (q_X3_tell l dC dI TT s.heap.size kI kJ kZ K L f hPI g0 hg0 k0 (-1) (Int32.toInt64 z_2) hU hXL (by constructor <;> omega) (by omega) (fun h9 => by constructor <;> omega)) (cwV 3 hts gX3_tellObject_X3_tell rfl rfl rfl (by decide +kernel) ⟨Nat.le_of_ble_eq_true rfl, Nat.le_of_ble_eq_true rfl⟩) ⟨pr_blind, va_recv hK hP (ci := 3) rfl hk_4, (pr_S (ws := va_pl L f) (wA := va_pl L f) (tys := [(kI, .int), (kJ, .long), (kZ, .boolean)]) hP hK (hD.weaken (fun _ _ _ _ => trivial)) hst hS hFc).2⟩ rfl rfl hl.1 rfl (lv_room (Nat.le_of_ble_eq_true rfl)) dX3_tellObject_10 ⟨Nat.le_of_ble_eq_true rfl, Nat.le_of_ble_eq_true rfl⟩) hS (fun q _ h => hFc q h) hFc (fun u t H1 locs ht hvm hw hB hz1 hk1 hS => ?_)
  obtain ⟨f_6, hPI, hrel, hP, hD9⟩ := hB
  rw [ht] at hP
  have hD := hD9.weaken (fun _ q _ h => hFc q.1 h)
  obtain ⟨hrelF, hrel⟩ := hrel
  have eq_7 := (hrelF s2_1 fs2_1.1 (by rw [fs2_1.2]; rfl)).trans e_2
  have hfr := FR.tr hfr hrelF (sK_sub (by decide))
  generalize H1 = H at hP hS ⊢
  have hXL := hrel
  refine lv_iconst (v := 0) hx hb dX3_tellObject_13 (by decide) ?_
  refine lv_istore_n (lv' := [(3, .int 0), (0, .ref g0), (1, .int k0), (2, .int o0)]) hx hb dX3_tellObject_14 rfl hl (by decide) rfl (fun ls hl => ?_)
  have hfrE15 := hfr
  have loop_15 : ∀ (n : Nat) (i3 : Int32)   (fl : Nat → va_E) (H : Heap) (locs : List Loc) (ls : Array Slot), (0 ≤ i3.toInt ∧ i3.toInt ≤ 17) → (17 - i3.toInt).toNat < n → (FR (sK [10, 22, 23, 24]) K L f_6 fl ∧ (XL kI kJ K L fl 23 24)) → PR kI kJ kZ K L fl → va_P (dC, dI) vwCl (va_pl L fl) H → va_D A (va_pl L fl) → va_S A s.heap H locs → lv_has ls 7 [(3, .int i3), (0, .ref g0), (1, .int k0), (2, .int o0)] → W p l e (headSpec wsX3_tellObject ({ frames := 1, cells := 0, slots := 0, locals := 24 } : Room)).room s m (([.ref g0, .int k0, .int o0] : List Value).toArray) below meth c H locs 0 0 Q0 (F0 m 15 ls []) := by
    intro n
    induction n with
    | zero => intro i3 fl H locs ls  _ h9; exact absurd h9 (Nat.not_lt_zero _)
    | succ n ih_15 =>
      intro i3 fl H locs ls  hI hM hFN hPI hP hD hS hl
      obtain ⟨hfr, hFN⟩ := hFN
      have eq_8 := (hfr s2_1 fs2_1.1 (by rw [fs2_1.2]; rfl)).trans eq_7
      have hXL := hFN
      refine lv_iload_n hx hb dX3_tellObject_15 rfl (lv_at hl 0 rfl) ?_
      refine lv_bipush (v := 17) hx hb dX3_tellObject_16 (by decide) ?_
      refine lv_icmp_ge (tgt := 180) hx hb dX3_tellObject_18 (by decide) (fun c_9 => ?_) (fun c_9 => ?_)
      · have c_9 := Int32.le_iff_toInt_le.mp c_9
        subst eQ
        exact W.vret hx hb hr (fun t ht hW => ⟨⟨(), rfl, trivial, fl, hPI, ⟨(FR.tr hfrE15 hfr (fun _ h => h)), hXL⟩, by rw [ht]; exact hP, hD⟩, hS.F ht⟩) hS.2.2 dX3_tellObject_180
      · have c_9 := mt Int32.le_iff_toInt_le.mpr c_9
        refine lv_aload_n hx hb dX3_tellObject_21 rfl (lv_at hl 1 rfl) ?_
        obtain ⟨s1_10, s2_10, s3_10, s4_10, s5_10, s6_10, s7_10, pa_10, lm_10, s8_10, s9_10, s10_10, fm_10, s11_10, nm_10, s12_10, s13_10, s14_10, rm_10, s15_10, s16_10, s17_10, s18_10, e_10, fs1_10, fs2_10, fs3_10, fs4_10, fs5_10, fs6_10, fs7_10, flm_10, fs8_10, fs9_10, fs10_10, ffm_10, fs11_10, fnm_10, fs12_10, fs13_10, fs14_10, frm_10, fs15_10, fs16_10, fs17_10, fs18_10⟩ := hPI.a10 hg0
        obtain ⟨k_10, hk_10⟩ := va_plg hg0.1 e_10
        obtain rfl : s1_1 = s1_10 := hU _ _ fs1_1.1 fs1_10.1 (fs1_1.2.trans fs1_10.2.symm)
        obtain rfl : s2_1 = s2_10 := hU _ _ fs2_1.1 fs2_10.1 (fs2_1.2.trans fs2_10.2.symm)
        obtain rfl : s3_1 = s3_10 := hU _ _ fs3_1.1 fs3_10.1 (fs3_1.2.trans fs3_10.2.symm)
        obtain rfl : s4_1 = s4_10 := hU _ _ fs4_1.1 fs4_10.1 (fs4_1.2.trans fs4_10.2.symm)
        obtain rfl : s5_1 = s5_10 := hU _ _ fs5_1.1 fs5_10.1 (fs5_1.2.trans fs5_10.2.symm)
        obtain rfl : s6_1 = s6_10 := hU _ _ fs6_1.1 fs6_10.1 (fs6_1.2.trans fs6_10.2.symm)
        obtain rfl : s7_1 = s7_10 := hU _ _ fs7_1.1 fs7_10.1 (fs7_1.2.trans fs7_10.2.symm)
        obtain rfl : s8_1 = s8_10 := hU _ _ fs8_1.1 fs8_10.1 (fs8_1.2.trans fs8_10.2.symm)
        obtain rfl : s9_1 = s9_10 := hU _ _ fs9_1.1 fs9_10.1 (fs9_1.2.trans fs9_10.2.symm)
        obtain rfl : s10_1 = s10_10 := hU _ _ fs10_1.1 fs10_10.1 (fs10_1.2.trans fs10_10.2.symm)
        obtain rfl : s11_1 = s11_10 := hU _ _ fs11_1.1 fs11_10.1 (fs11_1.2.trans fs11_10.2.symm)
        obtain rfl : s12_1 = s12_10 := hU _ _ fs12_1.1 fs12_10.1 (fs12_1.2.trans fs12_10.2.symm)
        obtain rfl : s13_1 = s13_10 := hU _ _ fs13_1.1 fs13_10.1 (fs13_1.2.trans fs13_10.2.symm)
        obtain rfl : s14_1 = s14_10 := hU _ _ fs14_1.1 fs14_10.1 (fs14_1.2.trans fs14_10.2.symm)
        obtain rfl : s15_1 = s15_10 := hU _ _ fs15_1.1 fs15_10.1 (fs15_1.2.trans fs15_10.2.symm)
        obtain rfl : s16_1 = s16_10 := hU _ _ fs16_1.1 fs16_10.1 (fs16_1.2.trans fs16_10.2.symm)
        obtain rfl : s17_1 = s17_10 := hU _ _ fs17_1.1 fs17_10.1 (fs17_1.2.trans fs17_10.2.symm)
        obtain rfl : s18_1 = s18_10 := hU _ _ fs18_1.1 fs18_10.1 (fs18_1.2.trans fs18_10.2.symm)
        refine va_get (D := (dC, dI)) (ci := 3) (v := .ref s2_1) (C := RX3) (T := TX3) (N := 23) hx hb hts iX3_ hown hK hP k_10 hk_10 rfl 1 (by decide) (hts (.fieldLink RX3 13 "FieldLeavesModel" "classOf" "[I") (by decide +kernel)) (fun _ h9 => h9) rfl dX3_tellObject_22 ?_
        refine lv_iload_n hx hb dX3_tellObject_25 rfl (lv_at hl 3 rfl) ?_
        obtain ⟨k_11, hk_11⟩ := va_plg fs2_1.1 eq_8
        have h_11 : vp_in o0 6400 := (vp_in_iff.mpr (by constructor <;> omega))
        refine va_iald hx hb hK hP k_11 0 hk_11 rfl h_11 dX3_tellObject_26 ?_
        refine lv_topi (fun z_11 ez_11 => ?_)
        obtain rfl : z_2 = z_11 := ez_2.trans ez_11.symm
        refine lv_iload_n hx hb dX3_tellObject_27 rfl (lv_at hl 0 rfl) ?_
        refine va_calli (va_runS (As := [.int z_2, .int i3]) (rest := []) ⟨hx, hb, hml, hown, hts⟩ (q_X3_has l dC dI TT H.size z_2 i3) (va_cwS 2 hts gX3_tellObject_X3_has rfl rfl rfl (by decide +kernel) ⟨Nat.le_of_ble_eq_true rfl, Nat.le_of_ble_eq_true rfl⟩) (pr_S (ws := []) (wA := []) (tys := []) vp_nil (hK.sub [] rfl) vd_nil hst hS (ro_free hS hA)) rfl rfl hl.1 rfl (lv_room (Nat.le_of_ble_eq_true rfl)) dX3_tellObject_28 ⟨Nat.le_of_ble_eq_true rfl, Nat.le_of_ble_eq_true rfl⟩) hS (fun q _ h => (ro_free hS hA) q h) (ro_free hS hA) (fun r_12 u t H1 locs ht hvm hw hB hz1 hk1 hS => ?_)
        have hP := ro_keep hP hk1
        generalize H1 = H at hP hS ⊢
        rcases hw with ⟨rfl, hp_13⟩ | ⟨rfl, hp_13⟩
        · refine lv_if_ne (tgt := 37) hx hb dX3_tellObject_31 (by decide) (fun _ => ?_) (fun c9 => absurd c9 (by decide))
          refine lv_aload_n hx hb dX3_tellObject_37 rfl (lv_at hl 1 rfl) ?_
          obtain ⟨k_14, hk_14⟩ := va_plg hg0.1 e_10
          refine va_get (D := (dC, dI)) (ci := 3) (v := .ref s3_1) (C := RX3) (T := TX3) (N := 23) hx hb hts iX3_ hown hK hP k_14 hk_14 rfl 2 (by decide) (hts (.fieldLink RX3 17 "FieldLeavesModel" "field" "[J") (by decide +kernel)) (fun _ h9 => h9) rfl dX3_tellObject_38 ?_
          refine lv_bipush (v := 17) hx hb dX3_tellObject_41 (by decide) ?_
          refine lv_iload_n hx hb dX3_tellObject_43 rfl (lv_at hl 3 rfl) ?_
          refine lv_imul hx hb dX3_tellObject_44 ?_
          refine lv_topi (fun z_15 ez_15 => ?_)
          have kz_15 := mul17 ez_15 (by omega) (by omega)
          refine lv_iload_n hx hb dX3_tellObject_45 rfl (lv_at hl 0 rfl) ?_
          refine lv_iadd hx hb dX3_tellObject_46 ?_
          refine lv_topi (fun z_16 ez_16 => ?_)
          have kz_16 := add_toInt ez_16 (by omega) (by omega)
          obtain ⟨g_17, e_17, fg_17⟩ := hPI.a13 fs3_1
          obtain ⟨k_17, hk_17⟩ := va_plg fs3_1.1 e_17
          have h_17 : vp_in z_16 108800 := (vp_in_iff.mpr (by constructor <;> omega))
          refine va_lald hx hb hK hP k_17 1 hk_17 rfl h_17 dX3_tellObject_47 ?_
          refine lv_topl (fun z_17 ez_17 => ?_)
          refine lv_lstore (lv' := [(4, .long z_17), (3, .int i3), (0, .ref g0), (1, .int k0), (2, .int o0)]) hx hb dX3_tellObject_48 hl (by decide) rfl (fun ls hl => ?_)
          refine lv_iload_n hx hb dX3_tellObject_50 rfl (lv_at hl 1 rfl) ?_
          refine lv_bipush (v := 9) hx hb dX3_tellObject_51 (by decide) ?_
          refine lv_icmp_ne (tgt := 126) hx hb dX3_tellObject_53 (by decide) (fun c_18 => ?_) (fun c_18 => ?_)
          · have c_18 := mt Int32.toInt_inj.mp c_18
            refine lv_iload_n hx hb dX3_tellObject_126 rfl (lv_at hl 1 rfl) ?_
            refine va_calli (va_runS (As := [.int i3]) (rest := []) ⟨hx, hb, hml, hown, hts⟩ (c_X3_isLink l dC dI TT H.size i3) (va_cwS 1 hts gX3_tellObject_X3_isLink rfl rfl rfl (by decide +kernel) ⟨Nat.le_of_ble_eq_true rfl, Nat.le_of_ble_eq_true rfl⟩) (pr_S (ws := []) (wA := []) (tys := []) vp_nil (hK.sub [] rfl) vd_nil hst hS (ro_free hS hA)) rfl rfl hl.1 rfl (lv_room (Nat.le_of_ble_eq_true rfl)) dX3_tellObject_127 ⟨Nat.le_of_ble_eq_true rfl, Nat.le_of_ble_eq_true rfl⟩) hS (fun q _ h => (ro_free hS hA) q h) (ro_free hS hA) (fun r_19 u t H1 locs ht hvm hw hB hz1 hk1 hS => ?_)
            have hP := ro_keep hP hk1
            generalize H1 = H at hP hS ⊢
            rcases hw with ⟨rfl, hp_20⟩ | ⟨rfl, hp_20⟩
            · refine lv_if_eq (tgt := 159) hx hb dX3_tellObject_130 (by decide) (fun c9 => absurd c9 (by decide)) (fun _ => ?_)
              refine lv_lload hx hb dX3_tellObject_133 (lv_at hl 0 rfl) ?_
              refine lv_ldc2 hx hb hown (hts (.constantLong RX3 82 (-1)) (by decide +kernel)) dX3_tellObject_135 ?_
              refine W.lcmp hx hb dX3_tellObject_138 ?_
              refine lv_if_eq (tgt := 174) hx hb dX3_tellObject_139 (by decide) (fun c_21 => ?_) (fun c_21 => ?_)
              · have c_21 := congrArg Int64.toInt ((lg_cmp_eq z_17 (-1)).mp c_21)
                obtain ⟨i_22, ei_22⟩ : ∃ y : Int32, y = i3 + 1 := ⟨_, rfl⟩
                refine lv_iinc (v := i_22) (lv' := [(3, .int i_22), (4, .long z_17), (0, .ref g0), (1, .int k0), (2, .int o0)]) hx hb dX3_tellObject_174 hl (k := 1) rfl (by rw [ei_22]; rfl) (by decide) rfl (fun ls hl => ?_)
                have ki_22 := inc_toInt ei_22 (by omega)
                refine lv_goto (tgt := 15) hx hb dX3_tellObject_177 (by decide) ?_
                exact ih_15 i_22 fl _ _ _  (by omega) (by omega) ⟨hfr, hXL⟩ hPI hP hD hS (lv_sub hl [0, 2, 3, 4] rfl)
              · have c_21 := mt (fun h9 => (lg_cmp_eq z_17 (-1)).mpr (Int64.toInt_inj.mp h9)) c_21
                refine lv_aload_n hx hb dX3_tellObject_142 rfl (lv_at hl 2 rfl) ?_
                refine lv_iload_n hx hb dX3_tellObject_143 rfl (lv_at hl 3 rfl) ?_
                refine lv_iload_n hx hb dX3_tellObject_144 rfl (lv_at hl 1 rfl) ?_
                refine lv_aload_n hx hb dX3_tellObject_145 rfl (lv_at hl 2 rfl) ?_
                refine lv_lload hx hb dX3_tellObject_146 (lv_at hl 0 rfl) ?_
                refine lv_l2i hx hb dX3_tellObject_148 rfl ?_
                refine lv_topi (fun z_23 ez_23 => ?_)
                obtain ⟨k_24, hk_24⟩ := va_plg hg0.1 e_10
                refine va_calli (va_runV (b := g0) (As := [.int z_23]) (rest := [.int i3, .int k0, .ref g0]) ⟨hx, hb, hml, hown, hts⟩ (q_X3_numberOf l dC dI TT H.size kI kJ kZ K L fl hPI g0 hg0 z_23) (cwV 1 hts gX3_tellObject_X3_numberOf rfl rfl rfl (by decide +kernel) ⟨Nat.le_of_ble_eq_true rfl, Nat.le_of_ble_eq_true rfl⟩) ⟨pr_blind, va_recv hK hP (ci := 3) rfl hk_24, (pr_S (ws := va_pl L fl) (wA := []) (tys := [(kI, .int), (kJ, .long), (kZ, .boolean)]) hP hK vd_nil hst hS (ro_free hS hA)).2⟩ rfl rfl hl.1 rfl (lv_room (Nat.le_of_ble_eq_true rfl)) dX3_tellObject_149 ⟨Nat.le_of_ble_eq_true rfl, Nat.le_of_ble_eq_true rfl⟩) hS (fun q _ h => (ro_free hS hA) q h) (ro_free hS hA) (fun r_25 u t H1 locs ht hvm hw hB hz1 hk1 hS => ?_)
                have hP := ro_keep hP hk1
                generalize H1 = H at hP hS ⊢
                refine lv_i2l (v := Int32.toInt64 r_25) hx hb dX3_tellObject_152 rfl ?_
                have k_z_26 := Int32.toInt_toInt64 r_25
                have hFc := pl_free hD hS hA
                obtain ⟨k_27, hk_27⟩ := va_plg hg0.1 e_10
                refine va_callv (va_runV (b := g0) (As := [.int k0, .int i3, .long (Int32.toInt64 r_25)]) (rest := []) ⟨hx, hb, hml, hown, hts⟩ (q_X3_tell l dC dI TT H.size kI kJ kZ K L fl hPI g0 hg0 k0 i3 (Int32.toInt64 r_25) hU hXL (by constructor <;> omega) (by omega) (fun h9 => by constructor <;> omega)) (cwV 3 hts gX3_tellObject_X3_tell rfl rfl rfl (by decide +kernel) ⟨Nat.le_of_ble_eq_true rfl, Nat.le_of_ble_eq_true rfl⟩) ⟨pr_blind, va_recv hK hP (ci := 3) rfl hk_27, (pr_S (ws := va_pl L fl) (wA := va_pl L fl) (tys := [(kI, .int), (kJ, .long), (kZ, .boolean)]) hP hK (hD.weaken (fun _ _ _ _ => trivial)) hst hS hFc).2⟩ rfl rfl hl.1 rfl (lv_room (Nat.le_of_ble_eq_true rfl)) dX3_tellObject_153 ⟨Nat.le_of_ble_eq_true rfl, Nat.le_of_ble_eq_true rfl⟩) hS (fun q _ h => hFc q h) hFc (fun u t H1 locs ht hvm hw hB hz1 hk1 hS => ?_)
                obtain ⟨f_29, hPI, hrel, hP, hD9⟩ := hB
                rw [ht] at hP
                have hD := hD9.weaken (fun _ q _ h => hFc q.1 h)
                obtain ⟨hrelF, hrel⟩ := hrel
                have eq_30 := (hrelF s2_1 fs2_1.1 (by rw [fs2_1.2]; rfl)).trans eq_8
                have eq_31 := (hrelF s3_1 fs3_1.1 (by rw [fs3_1.2]; rfl)).trans e_17
                have hfr := FR.tr hfr hrelF (sK_sub (by decide))
                generalize H1 = H at hP hS ⊢
                have hXL := hrel
                refine lv_goto (tgt := 174) hx hb dX3_tellObject_156 (by decide) ?_
                obtain ⟨i_32, ei_32⟩ : ∃ y : Int32, y = i3 + 1 := ⟨_, rfl⟩
                refine lv_iinc (v := i_32) (lv' := [(3, .int i_32), (4, .long z_17), (0, .ref g0), (1, .int k0), (2, .int o0)]) hx hb dX3_tellObject_174 hl (k := 1) rfl (by rw [ei_32]; rfl) (by decide) rfl (fun ls hl => ?_)
                have ki_32 := inc_toInt ei_32 (by omega)
                refine lv_goto (tgt := 15) hx hb dX3_tellObject_177 (by decide) ?_
                exact ih_15 i_32 f_29 _ _ _  (by omega) (by omega) ⟨hfr, hXL⟩ hPI hP hD hS (lv_sub hl [0, 2, 3, 4] rfl)
            · refine lv_if_eq (tgt := 159) hx hb dX3_tellObject_130 (by decide) (fun _ => ?_) (fun c9 => absurd c9 (by decide))
              refine lv_lload hx hb dX3_tellObject_159 (lv_at hl 0 rfl) ?_
              refine lv_lconst (v := 0) hx hb dX3_tellObject_161 (by decide) ?_
              refine W.lcmp hx hb dX3_tellObject_162 ?_
              refine lv_if_eq (tgt := 174) hx hb dX3_tellObject_163 (by decide) (fun c_33 => ?_) (fun c_33 => ?_)
              · have c_33 := congrArg Int64.toInt ((lg_cmp_eq z_17 0).mp c_33)
                obtain ⟨i_34, ei_34⟩ : ∃ y : Int32, y = i3 + 1 := ⟨_, rfl⟩
                refine lv_iinc (v := i_34) (lv' := [(3, .int i_34), (4, .long z_17), (0, .ref g0), (1, .int k0), (2, .int o0)]) hx hb dX3_tellObject_174 hl (k := 1) rfl (by rw [ei_34]; rfl) (by decide) rfl (fun ls hl => ?_)
                have ki_34 := inc_toInt ei_34 (by omega)
                refine lv_goto (tgt := 15) hx hb dX3_tellObject_177 (by decide) ?_
                exact ih_15 i_34 fl _ _ _  (by omega) (by omega) ⟨hfr, hXL⟩ hPI hP hD hS (lv_sub hl [0, 2, 3, 4] rfl)
              · have c_33 := mt (fun h9 => (lg_cmp_eq z_17 0).mpr (Int64.toInt_inj.mp h9)) c_33
                refine lv_aload_n hx hb dX3_tellObject_166 rfl (lv_at hl 2 rfl) ?_
                refine lv_iload_n hx hb dX3_tellObject_167 rfl (lv_at hl 3 rfl) ?_
                refine lv_iload_n hx hb dX3_tellObject_168 rfl (lv_at hl 1 rfl) ?_
                refine lv_lload hx hb dX3_tellObject_169 (lv_at hl 0 rfl) ?_
                have hFc := pl_free hD hS hA
                obtain ⟨k_35, hk_35⟩ := va_plg hg0.1 e_10
                refine va_callv (va_runV (b := g0) (As := [.int k0, .int i3, .long z_17]) (rest := []) ⟨hx, hb, hml, hown, hts⟩ (q_X3_tell l dC dI TT H.size kI kJ kZ K L fl hPI g0 hg0 k0 i3 z_17 hU hXL (by constructor <;> omega) (by omega) (fun h9 => by constructor <;> omega)) (cwV 3 hts gX3_tellObject_X3_tell rfl rfl rfl (by decide +kernel) ⟨Nat.le_of_ble_eq_true rfl, Nat.le_of_ble_eq_true rfl⟩) ⟨pr_blind, va_recv hK hP (ci := 3) rfl hk_35, (pr_S (ws := va_pl L fl) (wA := va_pl L fl) (tys := [(kI, .int), (kJ, .long), (kZ, .boolean)]) hP hK (hD.weaken (fun _ _ _ _ => trivial)) hst hS hFc).2⟩ rfl rfl hl.1 rfl (lv_room (Nat.le_of_ble_eq_true rfl)) dX3_tellObject_171 ⟨Nat.le_of_ble_eq_true rfl, Nat.le_of_ble_eq_true rfl⟩) hS (fun q _ h => hFc q h) hFc (fun u t H1 locs ht hvm hw hB hz1 hk1 hS => ?_)
                obtain ⟨f_37, hPI, hrel, hP, hD9⟩ := hB
                rw [ht] at hP
                have hD := hD9.weaken (fun _ q _ h => hFc q.1 h)
                obtain ⟨hrelF, hrel⟩ := hrel
                have eq_38 := (hrelF s2_1 fs2_1.1 (by rw [fs2_1.2]; rfl)).trans eq_8
                have eq_39 := (hrelF s3_1 fs3_1.1 (by rw [fs3_1.2]; rfl)).trans e_17
                have hfr := FR.tr hfr hrelF (sK_sub (by decide))
                generalize H1 = H at hP hS ⊢
                have hXL := hrel
                obtain ⟨i_40, ei_40⟩ : ∃ y : Int32, y = i3 + 1 := ⟨_, rfl⟩
                refine lv_iinc (v := i_40) (lv' := [(3, .int i_40), (4, .long z_17), (0, .ref g0), (1, .int k0), (2, .int o0)]) hx hb dX3_tellObject_174 hl (k := 1) rfl (by rw [ei_40]; rfl) (by decide) rfl (fun ls hl => ?_)
                have ki_40 := inc_toInt ei_40 (by omega)
                refine lv_goto (tgt := 15) hx hb dX3_tellObject_177 (by decide) ?_
                exact ih_15 i_40 f_37 _ _ _  (by omega) (by omega) ⟨hfr, hXL⟩ hPI hP hD hS (lv_sub hl [0, 2, 3, 4] rfl)
          · have c_18 := congrArg Int32.toInt c_18
            refine lv_aload_n hx hb dX3_tellObject_56 rfl (lv_at hl 2 rfl) ?_
            obtain ⟨k_41, hk_41⟩ := va_plg hg0.1 e_10
            refine va_get (D := (dC, dI)) (ci := 3) (v := .ref s4_1) (C := RX3) (T := TX3) (N := 23) hx hb hts iX3_ hown hK hP k_41 hk_41 rfl 3 (by decide) (hts (.fieldLink RX3 21 "FieldLeavesModel" "rowSize" "[I") (by decide +kernel)) (fun _ h9 => h9) rfl dX3_tellObject_57 ?_
            refine lv_iload_n hx hb dX3_tellObject_60 rfl (lv_at hl 4 rfl) ?_
            obtain ⟨g_42, e_42, fg_42⟩ := hPI.a14 fs4_1
            obtain ⟨k_42, hk_42⟩ := va_plg fs4_1.1 e_42
            have h_42 : vp_in o0 6400 := (vp_in_iff.mpr (by constructor <;> omega))
            refine va_iald hx hb hK hP k_42 0 hk_42 rfl h_42 dX3_tellObject_61 ?_
            refine lv_topi (fun z_42 ez_42 => ?_)
            have fz_42 := fg_42 _ (vp_lt h_42)
            rw [← ez_42] at fz_42
            refine lv_iconst (v := (-1)) hx hb dX3_tellObject_62 (by decide) ?_
            refine lv_icmp_eq (tgt := 174) hx hb dX3_tellObject_63 (by decide) (fun c_43 => ?_) (fun c_43 => ?_)
            · have c_43 := congrArg Int32.toInt c_43
              obtain ⟨i_44, ei_44⟩ : ∃ y : Int32, y = i3 + 1 := ⟨_, rfl⟩
              refine lv_iinc (v := i_44) (lv' := [(3, .int i_44), (4, .long z_17), (0, .ref g0), (1, .int k0), (2, .int o0)]) hx hb dX3_tellObject_174 hl (k := 1) rfl (by rw [ei_44]; rfl) (by decide) rfl (fun ls hl => ?_)
              have ki_44 := inc_toInt ei_44 (by omega)
              refine lv_goto (tgt := 15) hx hb dX3_tellObject_177 (by decide) ?_
              exact ih_15 i_44 fl _ _ _  (by omega) (by omega) ⟨hfr, hXL⟩ hPI hP hD hS (lv_sub hl [0, 2, 3, 4] rfl)
            · have c_43 := mt Int32.toInt_inj.mp c_43
              refine lv_aload_n hx hb dX3_tellObject_66 rfl (lv_at hl 2 rfl) ?_
              refine lv_iload_n hx hb dX3_tellObject_67 rfl (lv_at hl 3 rfl) ?_
              refine lv_bipush (v := 9) hx hb dX3_tellObject_68 (by decide) ?_
              refine lv_aload_n hx hb dX3_tellObject_70 rfl (lv_at hl 2 rfl) ?_
              obtain ⟨k_45, hk_45⟩ := va_plg hg0.1 e_10
              refine va_get (D := (dC, dI)) (ci := 3) (v := .ref s4_1) (C := RX3) (T := TX3) (N := 23) hx hb hts iX3_ hown hK hP k_45 hk_45 rfl 3 (by decide) (hts (.fieldLink RX3 21 "FieldLeavesModel" "rowSize" "[I") (by decide +kernel)) (fun _ h9 => h9) rfl dX3_tellObject_71 ?_
              refine lv_iload_n hx hb dX3_tellObject_74 rfl (lv_at hl 4 rfl) ?_
              obtain ⟨k_46, hk_46⟩ := va_plg fs4_1.1 e_42
              have h_46 : vp_in o0 6400 := (vp_in_iff.mpr (by constructor <;> omega))
              refine va_iald hx hb hK hP k_46 0 hk_46 rfl h_46 dX3_tellObject_75 ?_
              refine lv_topi (fun z_46 ez_46 => ?_)
              obtain rfl : z_42 = z_46 := ez_42.trans ez_46.symm
              refine lv_i2l (v := Int32.toInt64 z_42) hx hb dX3_tellObject_76 rfl ?_
              have k_z_47 := Int32.toInt_toInt64 z_42
              have hFc := pl_free hD hS hA
              obtain ⟨k_48, hk_48⟩ := va_plg hg0.1 e_10
              refine va_callv (va_runV (b := g0) (As := [.int k0, .int 9, .long (Int32.toInt64 z_42)]) (rest := []) ⟨hx, hb, hml, hown, hts⟩ (q_X3_tell l dC dI TT H.size kI kJ kZ K L fl hPI g0 hg0 k0 9 (Int32.toInt64 z_42) hU hXL (by constructor <;> omega) (by omega) (fun h9 => by constructor <;> omega)) (cwV 3 hts gX3_tellObject_X3_tell rfl rfl rfl (by decide +kernel) ⟨Nat.le_of_ble_eq_true rfl, Nat.le_of_ble_eq_true rfl⟩) ⟨pr_blind, va_recv hK hP (ci := 3) rfl hk_48, (pr_S (ws := va_pl L fl) (wA := va_pl L fl) (tys := [(kI, .int), (kJ, .long), (kZ, .boolean)]) hP hK (hD.weaken (fun _ _ _ _ => trivial)) hst hS hFc).2⟩ rfl rfl hl.1 rfl (lv_room (Nat.le_of_ble_eq_true rfl)) dX3_tellObject_77 ⟨Nat.le_of_ble_eq_true rfl, Nat.le_of_ble_eq_true rfl⟩) hS (fun q _ h => hFc q h) hFc (fun u t H1 locs ht hvm hw hB hz1 hk1 hS => ?_)
              obtain ⟨f_50, hPI, hrel, hP, hD9⟩ := hB
              rw [ht] at hP
              have hD := hD9.weaken (fun _ q _ h => hFc q.1 h)
              obtain ⟨hrelF, hrel⟩ := hrel
              have eq_51 := (hrelF s2_1 fs2_1.1 (by rw [fs2_1.2]; rfl)).trans eq_8
              have eq_52 := (hrelF s3_1 fs3_1.1 (by rw [fs3_1.2]; rfl)).trans e_17
              have eq_53 := (hrelF s4_1 fs4_1.1 (by rw [fs4_1.2]; rfl)).trans e_42
              have hfr := FR.tr hfr hrelF (sK_sub (by decide))
              generalize H1 = H at hP hS ⊢
              have hXL := hrel
              refine lv_iconst (v := 0) hx hb dX3_tellObject_80 (by decide) ?_
              refine lv_istore (lv' := [(6, .int 0), (4, .long z_17), (3, .int i3), (0, .ref g0), (1, .int k0), (2, .int o0)]) hx hb dX3_tellObject_81 hl (by decide) rfl (fun ls hl => ?_)
              have hfrE83 := hfr
              have loop_83 : ∀ (n : Nat) (i6 : Int32)   (fl83 : Nat → va_E) (H : Heap) (locs : List Loc) (ls : Array Slot), (0 ≤ i6.toInt ∧ i6.toInt ≤ 20) → (20 - i6.toInt).toNat < n → (FR (sK [10, 22, 23, 24]) K L f_50 fl83 ∧ (XL kI kJ K L fl83 23 24)) → PR kI kJ kZ K L fl83 → va_P (dC, dI) vwCl (va_pl L fl83) H → va_D A (va_pl L fl83) → va_S A s.heap H locs → lv_has ls 7 [(6, .int i6), (4, .long z_17), (3, .int i3), (0, .ref g0), (1, .int k0), (2, .int o0)] → W p l e (headSpec wsX3_tellObject ({ frames := 1, cells := 0, slots := 0, locals := 24 } : Room)).room s m (([.ref g0, .int k0, .int o0] : List Value).toArray) below meth c H locs 0 0 Q0 (F0 m 83 ls []) := by
                intro n
                induction n with
                | zero => intro i6 fl83 H locs ls  _ h9; exact absurd h9 (Nat.not_lt_zero _)
                | succ n ih_83 =>
                  intro i6 fl83 H locs ls  hI hM hFN hPI hP hD hS hl
                  obtain ⟨hfr, hFN⟩ := hFN
                  have eq_54 := (hfr s2_1 fs2_1.1 (by rw [fs2_1.2]; rfl)).trans eq_51
                  have eq_55 := (hfr s3_1 fs3_1.1 (by rw [fs3_1.2]; rfl)).trans eq_52
                  have eq_56 := (hfr s4_1 fs4_1.1 (by rw [fs4_1.2]; rfl)).trans eq_53
                  have hXL := hFN
                  refine lv_iload hx hb dX3_tellObject_83 (lv_at hl 0 rfl) ?_
                  refine lv_aload_n hx hb dX3_tellObject_85 rfl (lv_at hl 3 rfl) ?_
                  obtain ⟨s1_57, s2_57, s3_57, s4_57, s5_57, s6_57, s7_57, pa_57, lm_57, s8_57, s9_57, s10_57, fm_57, s11_57, nm_57, s12_57, s13_57, s14_57, rm_57, s15_57, s16_57, s17_57, s18_57, e_57, fs1_57, fs2_57, fs3_57, fs4_57, fs5_57, fs6_57, fs7_57, flm_57, fs8_57, fs9_57, fs10_57, ffm_57, fs11_57, fnm_57, fs12_57, fs13_57, fs14_57, frm_57, fs15_57, fs16_57, fs17_57, fs18_57⟩ := hPI.a10 hg0
                  obtain ⟨k_57, hk_57⟩ := va_plg hg0.1 e_57
                  obtain rfl : s1_1 = s1_57 := hU _ _ fs1_1.1 fs1_57.1 (fs1_1.2.trans fs1_57.2.symm)
                  obtain rfl : s2_1 = s2_57 := hU _ _ fs2_1.1 fs2_57.1 (fs2_1.2.trans fs2_57.2.symm)
                  obtain rfl : s3_1 = s3_57 := hU _ _ fs3_1.1 fs3_57.1 (fs3_1.2.trans fs3_57.2.symm)
                  obtain rfl : s4_1 = s4_57 := hU _ _ fs4_1.1 fs4_57.1 (fs4_1.2.trans fs4_57.2.symm)
                  obtain rfl : s5_1 = s5_57 := hU _ _ fs5_1.1 fs5_57.1 (fs5_1.2.trans fs5_57.2.symm)
                  obtain rfl : s6_1 = s6_57 := hU _ _ fs6_1.1 fs6_57.1 (fs6_1.2.trans fs6_57.2.symm)
                  obtain rfl : s7_1 = s7_57 := hU _ _ fs7_1.1 fs7_57.1 (fs7_1.2.trans fs7_57.2.symm)
                  obtain rfl : s8_1 = s8_57 := hU _ _ fs8_1.1 fs8_57.1 (fs8_1.2.trans fs8_57.2.symm)
                  obtain rfl : s9_1 = s9_57 := hU _ _ fs9_1.1 fs9_57.1 (fs9_1.2.trans fs9_57.2.symm)
                  obtain rfl : s10_1 = s10_57 := hU _ _ fs10_1.1 fs10_57.1 (fs10_1.2.trans fs10_57.2.symm)
                  obtain rfl : s11_1 = s11_57 := hU _ _ fs11_1.1 fs11_57.1 (fs11_1.2.trans fs11_57.2.symm)
                  obtain rfl : s12_1 = s12_57 := hU _ _ fs12_1.1 fs12_57.1 (fs12_1.2.trans fs12_57.2.symm)
                  obtain rfl : s13_1 = s13_57 := hU _ _ fs13_1.1 fs13_57.1 (fs13_1.2.trans fs13_57.2.symm)
                  obtain rfl : s14_1 = s14_57 := hU _ _ fs14_1.1 fs14_57.1 (fs14_1.2.trans fs14_57.2.symm)
                  obtain rfl : s15_1 = s15_57 := hU _ _ fs15_1.1 fs15_57.1 (fs15_1.2.trans fs15_57.2.symm)
                  obtain rfl : s16_1 = s16_57 := hU _ _ fs16_1.1 fs16_57.1 (fs16_1.2.trans fs16_57.2.symm)
                  obtain rfl : s17_1 = s17_57 := hU _ _ fs17_1.1 fs17_57.1 (fs17_1.2.trans fs17_57.2.symm)
                  obtain rfl : s18_1 = s18_57 := hU _ _ fs18_1.1 fs18_57.1 (fs18_1.2.trans fs18_57.2.symm)
                  refine va_get (D := (dC, dI)) (ci := 3) (v := .ref s4_1) (C := RX3) (T := TX3) (N := 23) hx hb hts iX3_ hown hK hP k_57 hk_57 rfl 3 (by decide) (hts (.fieldLink RX3 21 "FieldLeavesModel" "rowSize" "[I") (by decide +kernel)) (fun _ h9 => h9) rfl dX3_tellObject_86 ?_
                  refine lv_iload_n hx hb dX3_tellObject_89 rfl (lv_at hl 5 rfl) ?_
                  obtain ⟨k_58, hk_58⟩ := va_plg fs4_1.1 eq_56
                  have h_58 : vp_in o0 6400 := (vp_in_iff.mpr (by constructor <;> omega))
                  refine va_iald hx hb hK hP k_58 0 hk_58 rfl h_58 dX3_tellObject_90 ?_
                  refine lv_topi (fun z_58 ez_58 => ?_)
                  obtain rfl : z_42 = z_58 := ez_42.trans ez_58.symm
                  refine lv_icmp_ge (tgt := 123) hx hb dX3_tellObject_91 (by decide) (fun c_59 => ?_) (fun c_59 => ?_)
                  · have c_59 := Int32.le_iff_toInt_le.mp c_59
                    refine lv_goto (tgt := 174) hx hb dX3_tellObject_123 (by decide) ?_
                    obtain ⟨i_60, ei_60⟩ : ∃ y : Int32, y = i3 + 1 := ⟨_, rfl⟩
                    refine lv_iinc (v := i_60) (lv' := [(3, .int i_60), (6, .int i6), (4, .long z_17), (0, .ref g0), (1, .int k0), (2, .int o0)]) hx hb dX3_tellObject_174 hl (k := 2) rfl (by rw [ei_60]; rfl) (by decide) rfl (fun ls hl => ?_)
                    have ki_60 := inc_toInt ei_60 (by omega)
                    refine lv_goto (tgt := 15) hx hb dX3_tellObject_177 (by decide) ?_
                    exact ih_15 i_60 fl83 _ _ _  (by omega) (by omega) ⟨(FR.tr hfrE83 hfr (fun _ h => h)), hXL⟩ hPI hP hD hS (lv_sub hl [0, 3, 4, 5] rfl)
                  · have c_59 := mt Int32.le_iff_toInt_le.mpr c_59
                    refine lv_aload_n hx hb dX3_tellObject_94 rfl (lv_at hl 3 rfl) ?_
                    refine lv_iload_n hx hb dX3_tellObject_95 rfl (lv_at hl 4 rfl) ?_
                    refine lv_bipush (v := 100) hx hb dX3_tellObject_96 (by decide) ?_
                    refine lv_iload hx hb dX3_tellObject_98 (lv_at hl 0 rfl) ?_
                    refine lv_iadd hx hb dX3_tellObject_100 ?_
                    refine lv_topi (fun z_61 ez_61 => ?_)
                    have kz_61 := add_toInt ez_61 (by omega) (by omega)
                    refine lv_aload_n hx hb dX3_tellObject_101 rfl (lv_at hl 3 rfl) ?_
                    obtain ⟨k_62, hk_62⟩ := va_plg hg0.1 e_57
                    refine va_get (D := (dC, dI)) (ci := 3) (v := .ref s5_1) (C := RX3) (T := TX3) (N := 23) hx hb hts iX3_ hown hK hP k_62 hk_62 rfl 4 (by decide) (hts (.fieldLink RX3 25 "FieldLeavesModel" "rows" "[I") (by decide +kernel)) (fun _ h9 => h9) rfl dX3_tellObject_102 ?_
                    refine lv_bipush (v := 20) hx hb dX3_tellObject_105 (by decide) ?_
                    refine lv_iload_n hx hb dX3_tellObject_107 rfl (lv_at hl 5 rfl) ?_
                    refine lv_imul hx hb dX3_tellObject_108 ?_
                    refine lv_topi (fun z_63 ez_63 => ?_)
                    have kz_63 := mul20 ez_63 (by omega) (by omega)
                    refine lv_iload hx hb dX3_tellObject_109 (lv_at hl 0 rfl) ?_
                    refine lv_iadd hx hb dX3_tellObject_111 ?_
                    refine lv_topi (fun z_64 ez_64 => ?_)
                    have kz_64 := add_toInt ez_64 (by omega) (by omega)
                    obtain ⟨g_65, e_65, fg_65⟩ := hPI.a15 fs5_1
                    obtain ⟨k_65, hk_65⟩ := va_plg fs5_1.1 e_65
                    have h_65 : vp_in z_64 128000 := (vp_in_iff.mpr (by constructor <;> omega))
                    refine va_iald hx hb hK hP k_65 0 hk_65 rfl h_65 dX3_tellObject_112 ?_
                    refine lv_topi (fun z_65 ez_65 => ?_)
                    refine lv_i2l (v := Int32.toInt64 z_65) hx hb dX3_tellObject_113 rfl ?_
                    have k_z_66 := Int32.toInt_toInt64 z_65
                    have hFc := pl_free hD hS hA
                    obtain ⟨k_67, hk_67⟩ := va_plg hg0.1 e_57
                    refine va_callv (va_runV (b := g0) (As := [.int k0, .int z_61, .long (Int32.toInt64 z_65)]) (rest := []) ⟨hx, hb, hml, hown, hts⟩ (q_X3_tell l dC dI TT H.size kI kJ kZ K L fl83 hPI g0 hg0 k0 z_61 (Int32.toInt64 z_65) hU hXL (by constructor <;> omega) (by omega) (fun h9 => by constructor <;> omega)) (cwV 3 hts gX3_tellObject_X3_tell rfl rfl rfl (by decide +kernel) ⟨Nat.le_of_ble_eq_true rfl, Nat.le_of_ble_eq_true rfl⟩) ⟨pr_blind, va_recv hK hP (ci := 3) rfl hk_67, (pr_S (ws := va_pl L fl83) (wA := va_pl L fl83) (tys := [(kI, .int), (kJ, .long), (kZ, .boolean)]) hP hK (hD.weaken (fun _ _ _ _ => trivial)) hst hS hFc).2⟩ rfl rfl hl.1 rfl (lv_room (Nat.le_of_ble_eq_true rfl)) dX3_tellObject_114 ⟨Nat.le_of_ble_eq_true rfl, Nat.le_of_ble_eq_true rfl⟩) hS (fun q _ h => hFc q h) hFc (fun u t H1 locs ht hvm hw hB hz1 hk1 hS => ?_)
                    obtain ⟨f_69, hPI, hrel, hP, hD9⟩ := hB
                    rw [ht] at hP
                    have hD := hD9.weaken (fun _ q _ h => hFc q.1 h)
                    obtain ⟨hrelF, hrel⟩ := hrel
                    have eq_70 := (hrelF s2_1 fs2_1.1 (by rw [fs2_1.2]; rfl)).trans eq_54
                    have eq_71 := (hrelF s3_1 fs3_1.1 (by rw [fs3_1.2]; rfl)).trans eq_55
                    have eq_72 := (hrelF s4_1 fs4_1.1 (by rw [fs4_1.2]; rfl)).trans eq_56
                    have eq_73 := (hrelF s5_1 fs5_1.1 (by rw [fs5_1.2]; rfl)).trans e_65
                    have hfr := FR.tr hfr hrelF (sK_sub (by decide))
                    generalize H1 = H at hP hS ⊢
                    have hXL := hrel
                    obtain ⟨i_74, ei_74⟩ : ∃ y : Int32, y = i6 + 1 := ⟨_, rfl⟩
                    refine lv_iinc (v := i_74) (lv' := [(6, .int i_74), (4, .long z_17), (3, .int i3), (0, .ref g0), (1, .int k0), (2, .int o0)]) hx hb dX3_tellObject_117 hl (k := 0) rfl (by rw [ei_74]; rfl) (by decide) rfl (fun ls hl => ?_)
                    have ki_74 := inc_toInt ei_74 (by omega)
                    refine lv_goto (tgt := 83) hx hb dX3_tellObject_120 (by decide) ?_
                    exact ih_83 i_74 f_69 _ _ _  (by omega) (by omega) ⟨hfr, hXL⟩ hPI hP hD hS (lv_sub hl [0, 1, 2, 3, 4, 5] rfl)
              exact loop_83 21 0 f_50 _ _ _  (by omega) (by omega) ⟨FR.rf, hXL⟩ hPI hP hD hS hl
        · refine lv_if_ne (tgt := 37) hx hb dX3_tellObject_31 (by decide) (fun c9 => absurd c9 (by decide)) (fun _ => ?_)
          refine lv_goto (tgt := 174) hx hb dX3_tellObject_34 (by decide) ?_
          obtain ⟨i_75, ei_75⟩ : ∃ y : Int32, y = i3 + 1 := ⟨_, rfl⟩
          refine lv_iinc (v := i_75) (lv' := [(3, .int i_75), (0, .ref g0), (1, .int k0), (2, .int o0)]) hx hb dX3_tellObject_174 hl (k := 0) rfl (by rw [ei_75]; rfl) (by decide) rfl (fun ls hl => ?_)
          have ki_75 := inc_toInt ei_75 (by omega)
          refine lv_goto (tgt := 15) hx hb dX3_tellObject_177 (by decide) ?_
          exact ih_15 i_75 fl _ _ _  (by omega) (by omega) ⟨hfr, hXL⟩ hPI hP hD hS (lv_sub hl [0, 1, 2, 3] rfl)
  exact loop_15 18 0 f_6 _ _ _  (by omega) (by omega) ⟨FR.rf, hXL⟩ hPI hP hD hS hl
