set_option maxRecDepth 20000 in
theorem in_g_X3_back_X3 : ∀ w ∈ u_ws RX3 TX3 23, w ∈ wsX3_back := by decide +kernel
set_option maxRecDepth 100000 in
set_option maxHeartbeats 4000000 in
theorem g_X3_back (l : Launch) (dC : Nat → ClassId) (dI : Nat → Nat → Nat) (TT : Nat × Nat × Nat) (sz : Nat) (kI kJ kZ : ClassId) (K : Nat → Nat) (L : List Nat) (f : Nat → va_E) (hPI : PR kI kJ kZ K L f) (g0 : Nat) (hg0 : isr K L 10 g0) (p0 : Int32) (hU : UN K L) (nE nB : Nat) (hGX : GX kI kJ K L f nE nB) (hcap : 24 * (12 + nE) ≤ 6376 ∨ nB ≤ 6376) (hXM : XL kI kJ K L f 19 20) (hOL : OR kI K L f 18 8) : Met l yX3_back wsX3_back ({ frames := 2, cells := 0, slots := 0, locals := 45 } : Room) (va_Pc [.ref g0, .int p0] (pr dC dI (va_pl L f) (va_pl L f) [(kI, .int), (kJ, .long), (kZ, .boolean)] sz TT)) (va_Qi (fun (r : Int32) (u : Unit) => True) (fun (_ : Unit) t => ∃ f2 : Nat → va_E, PR kI kJ kZ K L f2 ∧ (FR (sK [11, 12, 13, 14, 15, 16, 17, 25]) K L f f2 ∧ GX kI kJ K L f2 nE (nB + 24)) ∧ va_P (dC, dI) vwCl (va_pl L f2) t.heap ∧ va_D (va_A (va_pl L f) sz) (va_pl L f2)) (va_A (va_pl L f) sz)) 0 0 (va_A (va_pl L f) sz) := by
  refine Met.ofW (cc := cX3_back) (maxL := 8) (ret := (some .int)) (by decide) rfl ?_
  intro p e s m args below meth c s₁ B hml hv
  obtain ⟨rfl, hsz, hP, hK, hD0, hst⟩ := hv
  have hx := B.exec
  have hb := B.bytes
  have hr := B.returns
  have hts := atoms_spec (ws := wsX3_back) B.pre
  have hown : s.vm.findClass RX3 = some m.cls := findClass_of_methodNamed B.named
  have hlocks := B.notSynchronized
  have iX3_ := in_g_X3_back_X3
  subst hsz
  have hD := hD0.self (sz := s.heap.size)
  generalize hAe : va_A (va_pl L f) s.heap.size = A at hD hst ⊢
  have hA : ∀ q : Nat, s.heap.size ≤ q → A q := fun q h => by rw [← hAe]; exact Or.inr h
  have hS : va_S A s.heap s.heap [] := va_S.rf
  have hl := lv_entry ([.ref g0, .int p0]) (n := 8) (Nat.le_of_ble_eq_true rfl)
  rw [lg_entry_eq]
  generalize (lg_sl ([.ref g0, .int p0]) ++ List.replicate (8 - (lg_sl ([.ref g0, .int p0])).length) Slot.unset).toArray = ls at hl ⊢
  have hl : lv_has ls 8 [(0, .ref g0), (1, .int p0)] := hl
  have km18_ : Int32.toInt (-18) = -18 := by decide
  have km14_ : Int32.toInt (-14) = -14 := by decide
  have km12_ : Int32.toInt (-12) = -12 := by decide
  have km3_ : Int32.toInt (-3) = -3 := by decide
  have km1_ : Int32.toInt (-1) = -1 := by decide
  have k0_ : Int32.toInt 0 = 0 := by decide
  have k1_ : Int32.toInt 1 = 1 := by decide
  have k2_ : Int32.toInt 2 = 2 := by decide
  have k9_ : Int32.toInt 9 = 9 := by decide
  have k13_ : Int32.toInt 13 = 13 := by decide
  have k16_ : Int32.toInt 16 = 16 := by decide
  have k100_ : Int32.toInt 100 = 100 := by decide
  have kl0_ : Int64.toInt 0 = 0 := by decide
  have kl2_ : Int64.toInt 2 = 2 := by decide
  have kl1000_ : Int64.toInt 1000 = 1000 := by decide
  have hfr : FR (sK [11, 12, 13, 14, 15, 16, 17, 25]) K L f f := FR.rf
  refine W_nameQ (fun Q0 eQ => ?_)
  obtain ⟨fS, fC, fF, hSV, hGI⟩ := id hGX
  obtain ⟨s1_1, s2_1, s3_1, s4_1, s5_1, s6_1, s7_1, pa_1, lm_1, s8_1, s9_1, s10_1, fm_1, s11_1, nm_1, s12_1, s13_1, s14_1, rm_1, s15_1, s16_1, s17_1, s18_1, e_1, fs1_1, fs2_1, fs3_1, fs4_1, fs5_1, fs6_1, fs7_1, flm_1, fs8_1, fs9_1, fs10_1, ffm_1, fs11_1, fnm_1, fs12_1, fs13_1, fs14_1, frm_1, fs15_1, fs16_1, fs17_1, fs18_1⟩ := hPI.a10 hg0
  obtain ⟨k_1, hk_1⟩ := va_plg hg0.1 e_1
  have eg_2 := hSV.1 s1_1 fs1_1
  have fg_2 := (hPI.a11 fs1_1).of eg_2
  have eg_3 := hSV.2.1 s2_1 fs2_1
  have fg_3 := (hPI.a12 fs2_1).of eg_3
  have eg_4 := hSV.2.2 s3_1 fs3_1
  have fg_4 := (hPI.a13 fs3_1).of eg_4
  have hrS := fg_2
  have hrF := fg_4
  obtain ⟨g_5, e_5, fg_5⟩ := hPI.a18 fs8_1
  obtain ⟨k_5, hk_5⟩ := va_plg fs8_1.1 e_5
  obtain ⟨g_6, e_6, fg_6⟩ := hPI.a19 fs9_1
  obtain ⟨k_6, hk_6⟩ := va_plg fs9_1.1 e_6
  obtain ⟨g_7, e_7, fg_7⟩ := hPI.a20 fs10_1
  obtain ⟨k_7, hk_7⟩ := va_plg fs10_1.1 e_7
  have hxm := hXM _ _ _ _ fs9_1 fs10_1 e_6 e_7
  have hno := hOL.at (m := lm_1.toInt) hg0 fs8_1 e_5 (congrArg (vAt · 8) e_1)
  refine lv_iload_n hx hb dX3_back_0 rfl (lv_at hl 1 rfl) ?_
  refine va_calli (va_runS (As := [.int p0]) (rest := []) ⟨hx, hb, hml, hown, hts⟩ (c_X3_isSlot l dC dI TT s.heap.size p0) (va_cwS 1 hts gX3_back_X3_isSlot rfl rfl rfl (by decide +kernel) ⟨Nat.le_of_ble_eq_true rfl, Nat.le_of_ble_eq_true rfl⟩) (pr_S (ws := []) (wA := []) (tys := []) vp_nil (hK.sub [] rfl) vd_nil hst hS (ro_free hS hA)) rfl rfl hl.1 rfl (lv_room (Nat.le_of_ble_eq_true rfl)) dX3_back_1 ⟨Nat.le_of_ble_eq_true rfl, Nat.le_of_ble_eq_true rfl⟩) hS (fun q _ h => (ro_free hS hA) q h) (ro_free hS hA) (fun r_8 u t H1 locs ht hvm hw hB hz1 hk1 hS => ?_)
  have hP := ro_keep hP hk1
  generalize H1 = H at hP hS ⊢
  rcases hw with ⟨rfl, hp_9⟩ | ⟨rfl, hp_9⟩
  · refine lv_if_ne (tgt := 9) hx hb dX3_back_4 (by decide) (fun _ => ?_) (fun c9 => absurd c9 (by decide))
    refine lv_aload_n hx hb dX3_back_9 rfl (lv_at hl 0 rfl) ?_
    obtain ⟨k_10, hk_10⟩ := va_plg hg0.1 e_1
    refine va_get (D := (dC, dI)) (ci := 3) (v := .int lm_1) (C := RX3) (T := TX3) (N := 23) hx hb hts iX3_ hown hK hP k_10 hk_10 rfl 8 (by decide) (hts (.fieldLink RX3 184 "FieldLeavesModel" "leafMany" "I") (by decide +kernel)) (fun _ h9 => h9) rfl dX3_back_10 ?_
    refine lv_if_ne (tgt := 19) hx hb dX3_back_13 (by decide) (fun c_11 => ?_) (fun c_11 => ?_)
    · have c_11 := mt Int32.toInt_inj.mp c_11
      refine lv_aload_n hx hb dX3_back_19 rfl (lv_at hl 0 rfl) ?_
      obtain ⟨k_12, hk_12⟩ := va_plg hg0.1 e_1
      refine va_get (D := (dC, dI)) (ci := 3) (v := .ref s8_1) (C := RX3) (T := TX3) (N := 23) hx hb hts iX3_ hown hK hP k_12 hk_12 rfl 9 (by decide) (hts (.fieldLink RX3 35 "FieldLeavesModel" "leafObject" "[I") (by decide +kernel)) (fun _ h9 => h9) rfl dX3_back_20 ?_
      refine lv_aload_n hx hb dX3_back_23 rfl (lv_at hl 0 rfl) ?_
      obtain ⟨k_13, hk_13⟩ := va_plg hg0.1 e_1
      refine va_get (D := (dC, dI)) (ci := 3) (v := .int lm_1) (C := RX3) (T := TX3) (N := 23) hx hb hts iX3_ hown hK hP k_13 hk_13 rfl 8 (by decide) (hts (.fieldLink RX3 184 "FieldLeavesModel" "leafMany" "I") (by decide +kernel)) (fun _ h9 => h9) rfl dX3_back_24 ?_
      refine lv_iconst (v := 1) hx hb dX3_back_27 (by decide) ?_
      refine lv_isub hx hb dX3_back_28 ?_
      refine lv_topi (fun z_14 ez_14 => ?_)
      have kz_14 := sub_toInt2 ez_14 (by omega) (by omega)
      obtain ⟨k_15, hk_15⟩ := va_plg fs8_1.1 e_5
      have h_15 : vp_in z_14 300 := (vp_in_iff.mpr (by constructor <;> omega))
      refine va_iald hx hb hK hP k_15 0 hk_15 rfl h_15 dX3_back_29 ?_
      refine lv_topi (fun z_15 ez_15 => ?_)
      have fz_15 := fg_5 _ (vp_lt h_15)
      rw [← ez_15] at fz_15
      refine lv_iconst (v := 1) hx hb dX3_back_30 (by decide) ?_
      refine lv_iadd hx hb dX3_back_31 ?_
      refine lv_topi (fun z_16 ez_16 => ?_)
      have kz_16 := add_toInt ez_16 (by omega) (by omega)
      refine lv_istore_n (lv' := [(2, .int z_16), (0, .ref g0), (1, .int p0)]) hx hb dX3_back_32 rfl hl (by decide) rfl (fun ls hl => ?_)
      have hlc := clamp_int (i := z_14) (by omega)
      have hlast : ∀ j : Nat, (j : Int) < lm_1.toInt → (g_5 j).toInt ≤ z_15.toInt := fun j hj => by have h8 := hno j hj; rw [show lm_1.toInt.toNat - 1 = Int32.toNatClampNeg z_14 by omega, ← ez_15] at h8; exact h8
      refine lv_iconst (v := 0) hx hb dX3_back_33 (by decide) ?_
      refine lv_istore_n (lv' := [(3, .int 0), (2, .int z_16), (0, .ref g0), (1, .int p0)]) hx hb dX3_back_34 rfl hl (by decide) rfl (fun ls hl => ?_)
      have loop_35 : ∀ (n : Nat) (i3 : Int32)   (fl : Nat → va_E) (H : Heap) (locs : List Loc) (ls : Array Slot), (0 ≤ i3.toInt ∧ i3.toInt ≤ 24) → (24 - i3.toInt).toNat < n → (f = fl) → PR kI kJ kZ K L fl → va_P (dC, dI) vwCl (va_pl L fl) H → va_D A (va_pl L fl) → va_S A s.heap H locs → lv_has ls 8 [(3, .int i3), (2, .int z_16), (0, .ref g0), (1, .int p0)] → W p l e (headSpec wsX3_back ({ frames := 2, cells := 0, slots := 0, locals := 45 } : Room)).room s m (([.ref g0, .int p0] : List Value).toArray) below meth c H locs 0 0 Q0 (F0 m 35 ls []) := by
        intro n
        induction n with
        | zero => intro i3 fl H locs ls  _ h9; exact absurd h9 (Nat.not_lt_zero _)
        | succ n ih_35 =>
          intro i3 fl H locs ls  hI hM hFN hPI hP hD hS hl
          have hff := hFN
          subst hff
          refine lv_iload_n hx hb dX3_back_35 rfl (lv_at hl 0 rfl) ?_
          refine lv_iload_n hx hb dX3_back_36 rfl (lv_at hl 1 rfl) ?_
          refine lv_icmp_ge (tgt := 81) hx hb dX3_back_37 (by decide) (fun c_17 => ?_) (fun c_17 => ?_)
          · have c_17 := Int32.le_iff_toInt_le.mp c_17
            refine lv_aload_n hx hb dX3_back_81 rfl (lv_at hl 2 rfl) ?_
            have hFc := pl_free hD hS hA
            obtain ⟨k_19, hk_19⟩ := va_plg hg0.1 e_1
            refine va_callv (va_runV (b := g0) (As := []) (rest := []) ⟨hx, hb, hml, hown, hts⟩ (g_X3_look l dC dI TT H.size kI kJ kZ K L f hPI g0 hg0 hU fS fC fF hSV) (cwV 0 hts gX3_back_X3_lookWhatIsHeld rfl rfl rfl (by decide +kernel) ⟨Nat.le_of_ble_eq_true rfl, Nat.le_of_ble_eq_true rfl⟩) ⟨pr_blind, va_recv hK hP (ci := 3) rfl hk_19, (pr_S (ws := va_pl L f) (wA := va_pl L f) (tys := [(kI, .int), (kJ, .long), (kZ, .boolean)]) hP hK (hD.weaken (fun _ _ _ _ => trivial)) hst hS hFc).2⟩ rfl rfl hl.1 rfl (lv_room (Nat.le_of_ble_eq_true rfl)) dX3_back_82 ⟨Nat.le_of_ble_eq_true rfl, Nat.le_of_ble_eq_true rfl⟩) hS (fun q _ h => hFc q h) hFc (fun u t H1 locs ht hvm hw hB hz1 hk1 hS => ?_)
            obtain ⟨f_21, hPI, hrel, hP, hD9⟩ := hB
            rw [ht] at hP
            have hD := hD9.weaken (fun _ q _ h => hFc q.1 h)
            obtain ⟨hrelF, hrel⟩ := hrel
            have eq_22 := (hrelF g0 hg0.1 (by rw [hg0.2]; rfl)).trans e_1
            have eq_23 := (hrelF s1_1 fs1_1.1 (by rw [fs1_1.2]; rfl)).trans eg_2
            have eq_24 := (hrelF s2_1 fs2_1.1 (by rw [fs2_1.2]; rfl)).trans eg_3
            have eq_25 := (hrelF s3_1 fs3_1.1 (by rw [fs3_1.2]; rfl)).trans eg_4
            have eq_26 := (hrelF s8_1 fs8_1.1 (by rw [fs8_1.2]; rfl)).trans e_5
            have eq_27 := (hrelF s9_1 fs9_1.1 (by rw [fs9_1.2]; rfl)).trans e_6
            have eq_28 := (hrelF s10_1 fs10_1.1 (by rw [fs10_1.2]; rfl)).trans e_7
            have hfr := FR.tr hfr hrelF (sK_sub (by decide))
            generalize H1 = H at hP hS ⊢
            obtain ⟨zM, hZV, hMK⟩ := hrel
            have hSV := SV.mk hU fs1_1 fs2_1 fs3_1 eq_23 eq_24 eq_25
            have eg_30 := hZV s6_1 fs6_1
            have fg_30 := (hPI.a16 fs6_1).of eg_30
            have hcz := look_room hGI hMK hcap
            obtain ⟨A0, bb, E, B, hGA, hEl, hBl⟩ := hGI
            refine lv_iconst (v := 0) hx hb dX3_back_85 (by decide) ?_
            refine lv_istore_n (lv' := [(3, .int 0), (2, .int z_16), (0, .ref g0), (1, .int p0)]) hx hb dX3_back_86 rfl hl (by decide) rfl (fun ls hl => ?_)
            have hfrE87 := hfr
            obtain ⟨g_31, e_31, fg_31⟩ := hPI.a25 fs15_1
            obtain ⟨k_31, hk_31⟩ := va_plg fs15_1.1 e_31
            have loop_87 : ∀ (n : Nat) (j3 : Int32)   (fl87 : Nat → va_E) (H : Heap) (locs : List Loc) (ls : Array Slot), (0 ≤ j3.toInt ∧ j3.toInt ≤ 24) → (24 - j3.toInt).toNat < n → (FR (sK [11, 12, 13, 14, 15, 16, 17, 25]) K L f_21 fl87 ∧ (∃ (fC1 : Nat → Int32) (fG1 : Nat → Int64) (z1 gM : Nat → Int32), SV kI kJ K L fl87 fS fC1 fG1 ∧ ZV kZ K L fl87 z1 ∧ MV kI K L fl87 gM ∧ BB (fun o => o < 6400 ∧ zM o ≠ 0) bb E B fS fC1 fG1 z1 gM j3.toInt ∧ j3.toInt ≤ z_16.toInt)) → PR kI kJ kZ K L fl87 → va_P (dC, dI) vwCl (va_pl L fl87) H → va_D A (va_pl L fl87) → va_S A s.heap H locs → lv_has ls 8 [(3, .int j3), (2, .int z_16), (0, .ref g0), (1, .int p0)] → W p l e (headSpec wsX3_back ({ frames := 2, cells := 0, slots := 0, locals := 45 } : Room)).room s m (([.ref g0, .int p0] : List Value).toArray) below meth c H locs 0 0 Q0 (F0 m 87 ls []) := by
              intro n
              induction n with
              | zero => intro j3 fl87 H locs ls  _ h9; exact absurd h9 (Nat.not_lt_zero _)
              | succ n ih_87 =>
                intro j3 fl87 H locs ls  hI hM hFN hPI hP hD hS hl
                obtain ⟨hfr, hFN⟩ := hFN
                have eq_32 := (hfr g0 hg0.1 (by rw [hg0.2]; rfl)).trans eq_22
                have eq_33 := (hfr s8_1 fs8_1.1 (by rw [fs8_1.2]; rfl)).trans eq_26
                have eq_34 := (hfr s9_1 fs9_1.1 (by rw [fs9_1.2]; rfl)).trans eq_27
                have eq_35 := (hfr s10_1 fs10_1.1 (by rw [fs10_1.2]; rfl)).trans eq_28
                obtain ⟨fC1, fG1, z1, gM, hSV, hZV, hMV, hBB, hjm⟩ := hFN
                have eg_36 := hSV.1 s1_1 fs1_1
                have fg_36 := (hPI.a11 fs1_1).of eg_36
                have eg_37 := hSV.2.1 s2_1 fs2_1
                have fg_37 := (hPI.a12 fs2_1).of eg_37
                have eg_38 := hSV.2.2 s3_1 fs3_1
                have fg_38 := (hPI.a13 fs3_1).of eg_38
                have eg_39 := hZV s6_1 fs6_1
                have fg_39 := (hPI.a16 fs6_1).of eg_39
                have eg_40 := hMV s15_1 fs15_1
                have fg_40 := (hPI.a25 fs15_1).of eg_40
                refine lv_iload_n hx hb dX3_back_87 rfl (lv_at hl 0 rfl) ?_
                refine lv_iload_n hx hb dX3_back_88 rfl (lv_at hl 1 rfl) ?_
                refine lv_icmp_ge (tgt := 138) hx hb dX3_back_89 (by decide) (fun c_41 => ?_) (fun c_41 => ?_)
                · have c_41 := Int32.le_iff_toInt_le.mp c_41
                  refine lv_iconst (v := 0) hx hb dX3_back_138 (by decide) ?_
                  refine lv_istore_n (lv' := [(3, .int 0), (2, .int z_16), (0, .ref g0), (1, .int p0)]) hx hb dX3_back_139 rfl hl (by decide) rfl (fun ls hl => ?_)
                  have hfrE140 := hfr
                  have loop_140 : ∀ (n : Nat) (m3 : Int32)   (fl140 : Nat → va_E) (H : Heap) (locs : List Loc) (ls : Array Slot), (0 ≤ m3.toInt ∧ m3.toInt ≤ 300) → (300 - m3.toInt).toNat < n → (FR (sK [11, 12, 13, 14, 15, 16, 17, 25]) K L fl87 fl140 ∧ (∃ (fC1 : Nat → Int32) (fG1 : Nat → Int64) (z1 gM : Nat → Int32), SV kI kJ K L fl140 fS fC1 fG1 ∧ ZV kZ K L fl140 z1 ∧ MV kI K L fl140 gM ∧ BB (fun o => o < 6400 ∧ zM o ≠ 0) bb E B fS fC1 fG1 z1 gM z_16.toInt)) → PR kI kJ kZ K L fl140 → va_P (dC, dI) vwCl (va_pl L fl140) H → va_D A (va_pl L fl140) → va_S A s.heap H locs → lv_has ls 8 [(3, .int m3), (2, .int z_16), (0, .ref g0), (1, .int p0)] → W p l e (headSpec wsX3_back ({ frames := 2, cells := 0, slots := 0, locals := 45 } : Room)).room s m (([.ref g0, .int p0] : List Value).toArray) below meth c H locs 0 0 Q0 (F0 m 140 ls []) := by
                    intro n
                    induction n with
                    | zero => intro m3 fl140 H locs ls  _ h9; exact absurd h9 (Nat.not_lt_zero _)
                    | succ n ih_140 =>
                      intro m3 fl140 H locs ls  hI hM hFN hPI hP hD hS hl
                      obtain ⟨hfr, hFN⟩ := hFN
                      have eq_42 := (hfr g0 hg0.1 (by rw [hg0.2]; rfl)).trans eq_32
                      have eq_43 := (hfr s8_1 fs8_1.1 (by rw [fs8_1.2]; rfl)).trans eq_33
                      have eq_44 := (hfr s9_1 fs9_1.1 (by rw [fs9_1.2]; rfl)).trans eq_34
                      have eq_45 := (hfr s10_1 fs10_1.1 (by rw [fs10_1.2]; rfl)).trans eq_35
                      obtain ⟨fC1, fG1, z1, gM, hSV, hZV, hMV, hBB⟩ := hFN
                      have eg_46 := hSV.1 s1_1 fs1_1
                      have fg_46 := (hPI.a11 fs1_1).of eg_46
                      have eg_47 := hSV.2.1 s2_1 fs2_1
                      have fg_47 := (hPI.a12 fs2_1).of eg_47
                      have eg_48 := hSV.2.2 s3_1 fs3_1
                      have fg_48 := (hPI.a13 fs3_1).of eg_48
                      have eg_49 := hZV s6_1 fs6_1
                      have fg_49 := (hPI.a16 fs6_1).of eg_49
                      have eg_50 := hMV s15_1 fs15_1
                      have fg_50 := (hPI.a25 fs15_1).of eg_50
                      refine lv_iload_n hx hb dX3_back_140 rfl (lv_at hl 0 rfl) ?_
                      refine lv_aload_n hx hb dX3_back_141 rfl (lv_at hl 2 rfl) ?_
                      obtain ⟨k_51, hk_51⟩ := va_plg hg0.1 eq_42
                      refine va_get (D := (dC, dI)) (ci := 3) (v := .int lm_1) (C := RX3) (T := TX3) (N := 23) hx hb hts iX3_ hown hK hP k_51 hk_51 rfl 8 (by decide) (hts (.fieldLink RX3 184 "FieldLeavesModel" "leafMany" "I") (by decide +kernel)) (fun _ h9 => h9) rfl dX3_back_142 ?_
                      refine lv_icmp_ge (tgt := 335) hx hb dX3_back_145 (by decide) (fun c_52 => ?_) (fun c_52 => ?_)
                      · have c_52 := Int32.le_iff_toInt_le.mp c_52
                        refine lv_aload_n hx hb dX3_back_335 rfl (lv_at hl 2 rfl) ?_
                        obtain ⟨k_53, hk_53⟩ := va_plg hg0.1 eq_42
                        refine va_get (D := (dC, dI)) (ci := 3) (v := .ref s1_1) (C := RX3) (T := TX3) (N := 23) hx hb hts iX3_ hown hK hP k_53 hk_53 rfl 0 (by decide) (hts (.fieldLink RX3 7 "FieldLeavesModel" "slot" "[I") (by decide +kernel)) (fun _ h9 => h9) rfl dX3_back_336 ?_
                        refine lv_iload_n hx hb dX3_back_339 rfl (lv_at hl 3 rfl) ?_
                        refine lv_aload_n hx hb dX3_back_340 rfl (lv_at hl 2 rfl) ?_
                        obtain ⟨k_54, hk_54⟩ := va_plg hg0.1 eq_42
                        refine va_get (D := (dC, dI)) (ci := 3) (v := .ref s15_1) (C := RX3) (T := TX3) (N := 23) hx hb hts iX3_ hown hK hP k_54 hk_54 rfl 19 (by decide) (hts (.fieldLink RX3 56 "FieldLeavesModel" "made" "[I") (by decide +kernel)) (fun _ h9 => h9) rfl dX3_back_341 ?_
                        refine lv_iconst (v := 0) hx hb dX3_back_344 (by decide) ?_
                        obtain ⟨k_55, hk_55⟩ := va_plg fs15_1.1 eg_50
                        have h_55 : vp_in 0 24 := (vp_in_iff.mpr (by decide))
                        refine va_iald hx hb hK hP k_55 0 hk_55 rfl h_55 dX3_back_345 ?_
                        refine lv_topi (fun z_55 ez_55 => ?_)
                        have fz_55 := fg_50 _ (vp_lt h_55)
                        rw [← ez_55] at fz_55
                        obtain ⟨k_56, hk_56⟩ := va_plg fs1_1.1 eg_46
                        have h_56 : vp_in p0 12 := (vp_in_iff.mpr (by constructor <;> omega))
                        have fw_56 := updS (P := fun v => -1 ≤ v.toInt ∧ v.toInt < 6400) (k := Int32.toNatClampNeg p0) (v := z_55) fg_46 (by omega)
                        have hD9 := hD
                        refine va_iast hx hb hK hP hD hS k_56 0 hk_56 rfl h_56 dX3_back_346 (fun H locs hP hD hS => ?_)
                        have hP : va_P (dC, dI) vwCl (va_pl L (va_up fl140 s1_1 (.inl (kI, 12, .inl (upd fS (Int32.toNatClampNeg p0) z_55))))) H := by rw [← va_pls hD9 fs1_1.1 hk_56 _]; exact hP
                        have hD : va_D A (va_pl L (va_up fl140 s1_1 (.inl (kI, 12, .inl (upd fS (Int32.toNatClampNeg p0) z_55))))) := by rw [← va_pls hD9 fs1_1.1 hk_56 _]; exact hD
                        have hPI := hPI.put (e := .inl (kI, 12, .inl (upd fS (Int32.toNatClampNeg p0) z_55))) fs1_1 ⟨_, rfl, fw_56⟩
                        have es_f_57 : va_up fl140 s1_1 (.inl (kI, 12, .inl (upd fS (Int32.toNatClampNeg p0) z_55))) s1_1 = .inl (kI, 12, .inl (upd fS (Int32.toNatClampNeg p0) z_55)) := va_up_self _ _ _
                        have eq_58 := (va_up_ne fl140 (.inl (kI, 12, .inl (upd fS (Int32.toNatClampNeg p0) z_55))) (isr_ne hg0 fs1_1 (by decide))).trans eq_42
                        have eq_59 := (va_up_ne fl140 (.inl (kI, 12, .inl (upd fS (Int32.toNatClampNeg p0) z_55))) (isr_ne fs8_1 fs1_1 (by decide))).trans eq_43
                        have eq_60 := (va_up_ne fl140 (.inl (kI, 12, .inl (upd fS (Int32.toNatClampNeg p0) z_55))) (isr_ne fs9_1 fs1_1 (by decide))).trans eq_44
                        have eq_61 := (va_up_ne fl140 (.inl (kI, 12, .inl (upd fS (Int32.toNatClampNeg p0) z_55))) (isr_ne fs10_1 fs1_1 (by decide))).trans eq_45
                        have eq_62 := (va_up_ne fl140 (.inl (kI, 12, .inl (upd fS (Int32.toNatClampNeg p0) z_55))) (isr_ne fs2_1 fs1_1 (by decide))).trans eg_47
                        have eq_63 := (va_up_ne fl140 (.inl (kI, 12, .inl (upd fS (Int32.toNatClampNeg p0) z_55))) (isr_ne fs3_1 fs1_1 (by decide))).trans eg_48
                        have eq_64 := (va_up_ne fl140 (.inl (kI, 12, .inl (upd fS (Int32.toNatClampNeg p0) z_55))) (isr_ne fs6_1 fs1_1 (by decide))).trans eg_49
                        have eq_65 := (va_up_ne fl140 (.inl (kI, 12, .inl (upd fS (Int32.toNatClampNeg p0) z_55))) (isr_ne fs15_1 fs1_1 (by decide))).trans eg_50
                        have hfr := fr_up (S := (sK [11, 12, 13, 14, 15, 16, 17, 25])) (e := .inl (kI, 12, .inl (upd fS (Int32.toNatClampNeg p0) z_55))) hfr fs1_1 (by decide)
                        generalize va_up fl140 s1_1 (.inl (kI, 12, .inl (upd fS (Int32.toNatClampNeg p0) z_55))) = f_57 at hP hD hPI es_f_57 eq_58 eq_59 eq_60 eq_61 eq_62 eq_63 eq_64 eq_65 hfr
                        refine lv_iload_n hx hb dX3_back_347 rfl (lv_at hl 1 rfl) ?_
                        subst eQ
                        exact W.iret (v := z_16) hx hb hr (fun t ht hW => ⟨⟨z_16, (), rfl, trivial, f_57, hPI, ⟨(FR.tr hfrE87 (FR.tr hfrE140 hfr (fun _ h => h)) (fun _ h => h)), _, _, _, SV.mk hU fs1_1 fs2_1 fs3_1 es_f_57 eq_62 eq_63, bb_slot hBB hEl hBl (by omega) ez_55⟩, by rw [ht]; exact hP, hD⟩, hS.F ht⟩) hS.2.2 dX3_back_348
                      · have c_52 := mt Int32.le_iff_toInt_le.mpr c_52
                        refine lv_aload_n hx hb dX3_back_148 rfl (lv_at hl 2 rfl) ?_
                        obtain ⟨k_66, hk_66⟩ := va_plg hg0.1 eq_42
                        refine va_get (D := (dC, dI)) (ci := 3) (v := .ref s15_1) (C := RX3) (T := TX3) (N := 23) hx hb hts iX3_ hown hK hP k_66 hk_66 rfl 19 (by decide) (hts (.fieldLink RX3 56 "FieldLeavesModel" "made" "[I") (by decide +kernel)) (fun _ h9 => h9) rfl dX3_back_149 ?_
                        refine lv_aload_n hx hb dX3_back_152 rfl (lv_at hl 2 rfl) ?_
                        obtain ⟨k_67, hk_67⟩ := va_plg hg0.1 eq_42
                        refine va_get (D := (dC, dI)) (ci := 3) (v := .ref s8_1) (C := RX3) (T := TX3) (N := 23) hx hb hts iX3_ hown hK hP k_67 hk_67 rfl 9 (by decide) (hts (.fieldLink RX3 35 "FieldLeavesModel" "leafObject" "[I") (by decide +kernel)) (fun _ h9 => h9) rfl dX3_back_153 ?_
                        refine lv_iload_n hx hb dX3_back_156 rfl (lv_at hl 0 rfl) ?_
                        obtain ⟨k_68, hk_68⟩ := va_plg fs8_1.1 eq_43
                        have h_68 : vp_in m3 300 := (vp_in_iff.mpr (by constructor <;> omega))
                        refine va_iald hx hb hK hP k_68 0 hk_68 rfl h_68 dX3_back_157 ?_
                        refine lv_topi (fun z_68 ez_68 => ?_)
                        have fz_68 := fg_5 _ (vp_lt h_68)
                        rw [← ez_68] at fz_68
                        obtain ⟨k_69, hk_69⟩ := va_plg fs15_1.1 eg_50
                        have h_69 : vp_in z_68 24 := (vp_in_iff.mpr (by constructor <;> omega))
                        refine va_iald hx hb hK hP k_69 0 hk_69 rfl h_69 dX3_back_158 ?_
                        refine lv_topi (fun z_69 ez_69 => ?_)
                        have fz_69 := fg_50 _ (vp_lt h_69)
                        rw [← ez_69] at fz_69
                        have hlo := hlast (Int32.toNatClampNeg m3) (by rw [clamp_int (by omega)]; omega)
                        rw [← ez_68] at hlo
                        refine lv_istore (lv' := [(4, .int z_69), (3, .int m3), (2, .int z_16), (0, .ref g0), (1, .int p0)]) hx hb dX3_back_159 hl (by decide) rfl (fun ls hl => ?_)
                        refine lv_aload_n hx hb dX3_back_161 rfl (lv_at hl 3 rfl) ?_
                        obtain ⟨k_70, hk_70⟩ := va_plg hg0.1 eq_42
                        refine va_get (D := (dC, dI)) (ci := 3) (v := .ref s9_1) (C := RX3) (T := TX3) (N := 23) hx hb hts iX3_ hown hK hP k_70 hk_70 rfl 10 (by decide) (hts (.fieldLink RX3 38 "FieldLeavesModel" "leafField" "[I") (by decide +kernel)) (fun _ h9 => h9) rfl dX3_back_162 ?_
                        refine lv_iload_n hx hb dX3_back_165 rfl (lv_at hl 1 rfl) ?_
                        obtain ⟨k_71, hk_71⟩ := va_plg fs9_1.1 eq_44
                        have h_71 : vp_in m3 300 := (vp_in_iff.mpr (by constructor <;> omega))
                        refine va_iald hx hb hK hP k_71 0 hk_71 rfl h_71 dX3_back_166 ?_
                        refine lv_topi (fun z_71 ez_71 => ?_)
                        have fz_71 := fg_6 _ (vp_lt h_71)
                        rw [← ez_71] at fz_71
                        refine lv_istore (lv' := [(5, .int z_71), (4, .int z_69), (3, .int m3), (2, .int z_16), (0, .ref g0), (1, .int p0)]) hx hb dX3_back_167 hl (by decide) rfl (fun ls hl => ?_)
                        refine lv_aload_n hx hb dX3_back_169 rfl (lv_at hl 4 rfl) ?_
                        obtain ⟨k_72, hk_72⟩ := va_plg hg0.1 eq_42
                        refine va_get (D := (dC, dI)) (ci := 3) (v := .ref s10_1) (C := RX3) (T := TX3) (N := 23) hx hb hts iX3_ hown hK hP k_72 hk_72 rfl 11 (by decide) (hts (.fieldLink RX3 41 "FieldLeavesModel" "leafValue" "[J") (by decide +kernel)) (fun _ h9 => h9) rfl dX3_back_170 ?_
                        refine lv_iload_n hx hb dX3_back_173 rfl (lv_at hl 2 rfl) ?_
                        obtain ⟨k_73, hk_73⟩ := va_plg fs10_1.1 eq_45
                        have h_73 : vp_in m3 300 := (vp_in_iff.mpr (by constructor <;> omega))
                        refine va_lald hx hb hK hP k_73 1 hk_73 rfl h_73 dX3_back_174 ?_
                        refine lv_topl (fun z_73 ez_73 => ?_)
                        refine lv_lstore (lv' := [(6, .long z_73), (5, .int z_71), (4, .int z_69), (3, .int m3), (2, .int z_16), (0, .ref g0), (1, .int p0)]) hx hb dX3_back_175 hl (by decide) rfl (fun ls hl => ?_)
                        refine lv_iload hx hb dX3_back_177 (lv_at hl 1 rfl) ?_
                        refine lv_bipush (v := 100) hx hb dX3_back_179 (by decide) ?_
                        refine lv_icmp_lt (tgt := 206) hx hb dX3_back_181 (by decide) (fun c_74 => ?_) (fun c_74 => ?_)
                        · have c_74 := Int32.lt_iff_toInt_lt.mp c_74
                          refine lv_iload hx hb dX3_back_206 (lv_at hl 1 rfl) ?_
                          refine lv_bipush (v := 9) hx hb dX3_back_208 (by decide) ?_
                          refine lv_icmp_ne (tgt := 226) hx hb dX3_back_210 (by decide) (fun c_75 => ?_) (fun c_75 => ?_)
                          · have c_75 := mt Int32.toInt_inj.mp c_75
                            refine lv_iload hx hb dX3_back_226 (lv_at hl 1 rfl) ?_
                            refine lv_if_lt (tgt := 304) hx hb dX3_back_228 (by decide) (fun c_76 => ?_) (fun c_76 => ?_)
                            · have c_76 := Int32.lt_iff_toInt_lt.mp c_76
                              refine lv_iload hx hb dX3_back_304 (lv_at hl 1 rfl) ?_
                              refine lv_if_lt (tgt := 329) hx hb dX3_back_306 (by decide) (fun c_77 => ?_) (fun c_77 => ?_)
                              · have c_77 := Int32.lt_iff_toInt_lt.mp c_77
                                obtain ⟨i_78, ei_78⟩ : ∃ y : Int32, y = m3 + 1 := ⟨_, rfl⟩
                                refine lv_iinc (v := i_78) (lv' := [(3, .int i_78), (6, .long z_73), (5, .int z_71), (4, .int z_69), (2, .int z_16), (0, .ref g0), (1, .int p0)]) hx hb dX3_back_329 hl (k := 3) rfl (by rw [ei_78]; rfl) (by decide) rfl (fun ls hl => ?_)
                                have ki_78 := inc_toInt ei_78 (by omega)
                                refine lv_goto (tgt := 140) hx hb dX3_back_332 (by decide) ?_
                                exact ih_140 i_78 fl140 _ _ _  (by omega) (by omega) ⟨hfr, ⟨_, _, _, _, SV.mk hU fs1_1 fs2_1 fs3_1 eg_46 eg_47 eg_48, ZV.mk hU fs6_1 eg_49, MV.mk hU fs15_1 eg_50, hBB⟩⟩ hPI hP hD hS (lv_sub hl [0, 4, 5, 6] rfl)
                              · have c_77 := mt Int32.lt_iff_toInt_lt.mpr c_77
                                refine lv_aload_n hx hb dX3_back_309 rfl (lv_at hl 5 rfl) ?_
                                obtain ⟨k_79, hk_79⟩ := va_plg hg0.1 eq_42
                                refine va_get (D := (dC, dI)) (ci := 3) (v := .ref s3_1) (C := RX3) (T := TX3) (N := 23) hx hb hts iX3_ hown hK hP k_79 hk_79 rfl 2 (by decide) (hts (.fieldLink RX3 17 "FieldLeavesModel" "field" "[J") (by decide +kernel)) (fun _ h9 => h9) rfl dX3_back_310 ?_
                                refine lv_bipush (v := 17) hx hb dX3_back_313 (by decide) ?_
                                refine lv_iload hx hb dX3_back_315 (lv_at hl 2 rfl) ?_
                                refine lv_imul hx hb dX3_back_317 ?_
                                refine lv_topi (fun z_80 ez_80 => ?_)
                                have kz_80 := mul17 ez_80 (by omega) (by omega)
                                refine lv_iload hx hb dX3_back_318 (lv_at hl 1 rfl) ?_
                                refine lv_iadd hx hb dX3_back_320 ?_
                                refine lv_topi (fun z_81 ez_81 => ?_)
                                have kz_81 := add_toInt ez_81 (by omega) (by omega)
                                refine lv_iload hx hb dX3_back_321 (lv_at hl 1 rfl) ?_
                                refine lv_lload hx hb dX3_back_323 (lv_at hl 0 rfl) ?_
                                refine va_calll (va_runS (As := [.int z_71, .long z_73]) (rest := [.int z_81, .ref s3_1]) ⟨hx, hb, hml, hown, hts⟩ (q_X3_valueOf l dC dI TT H.size kI kJ kZ K L fl140 hPI z_71 z_73) (va_cwS 2 hts gX3_back_X3_valueOf rfl rfl rfl (by decide +kernel) ⟨Nat.le_of_ble_eq_true rfl, Nat.le_of_ble_eq_true rfl⟩) (pr_S (ws := va_pl L fl140) (wA := []) (tys := [(kI, .int), (kJ, .long), (kZ, .boolean)]) hP hK vd_nil hst hS (ro_free hS hA)) rfl rfl hl.1 rfl (lv_room (Nat.le_of_ble_eq_true rfl)) dX3_back_325 ⟨Nat.le_of_ble_eq_true rfl, Nat.le_of_ble_eq_true rfl⟩) hS (fun q _ h => (ro_free hS hA) q h) (ro_free hS hA) (fun r_82 u t H1 locs ht hvm hw hB hz1 hk1 hS => ?_)
                                have hP := ro_keep hP hk1
                                generalize H1 = H at hP hS ⊢
                                obtain ⟨k_83, hk_83⟩ := va_plg fs3_1.1 eg_48
                                have h_83 : vp_in z_81 108800 := (vp_in_iff.mpr (by constructor <;> omega))
                                have fw_83 := rgF.plain fg_48 (o := z_69) (f := z_71) (w := z_81) (v := r_82) (by constructor <;> omega) (by omega) (by omega)
                                have hD9 := hD
                                refine va_last hx hb hK hP hD hS k_83 1 hk_83 rfl h_83 dX3_back_328 (fun H locs hP hD hS => ?_)
                                have hP : va_P (dC, dI) vwCl (va_pl L (va_up fl140 s3_1 (.inl (kJ, 108800, .inr (.inl (vp_updL fG1 (Int32.toNatClampNeg z_81) r_82)))))) H := by rw [← va_pls hD9 fs3_1.1 hk_83 _]; exact hP
                                have hD : va_D A (va_pl L (va_up fl140 s3_1 (.inl (kJ, 108800, .inr (.inl (vp_updL fG1 (Int32.toNatClampNeg z_81) r_82)))))) := by rw [← va_pls hD9 fs3_1.1 hk_83 _]; exact hD
                                have hPI := hPI.put (e := .inl (kJ, 108800, .inr (.inl (vp_updL fG1 (Int32.toNatClampNeg z_81) r_82)))) fs3_1 ⟨_, rfl, fw_83⟩
                                have es_f_84 : va_up fl140 s3_1 (.inl (kJ, 108800, .inr (.inl (vp_updL fG1 (Int32.toNatClampNeg z_81) r_82)))) s3_1 = .inl (kJ, 108800, .inr (.inl (vp_updL fG1 (Int32.toNatClampNeg z_81) r_82))) := va_up_self _ _ _
                                have eq_85 := (va_up_ne fl140 (.inl (kJ, 108800, .inr (.inl (vp_updL fG1 (Int32.toNatClampNeg z_81) r_82)))) (isr_ne hg0 fs3_1 (by decide))).trans eq_42
                                have eq_86 := (va_up_ne fl140 (.inl (kJ, 108800, .inr (.inl (vp_updL fG1 (Int32.toNatClampNeg z_81) r_82)))) (isr_ne fs8_1 fs3_1 (by decide))).trans eq_43
                                have eq_87 := (va_up_ne fl140 (.inl (kJ, 108800, .inr (.inl (vp_updL fG1 (Int32.toNatClampNeg z_81) r_82)))) (isr_ne fs9_1 fs3_1 (by decide))).trans eq_44
                                have eq_88 := (va_up_ne fl140 (.inl (kJ, 108800, .inr (.inl (vp_updL fG1 (Int32.toNatClampNeg z_81) r_82)))) (isr_ne fs10_1 fs3_1 (by decide))).trans eq_45
                                have eq_89 := (va_up_ne fl140 (.inl (kJ, 108800, .inr (.inl (vp_updL fG1 (Int32.toNatClampNeg z_81) r_82)))) (isr_ne fs1_1 fs3_1 (by decide))).trans eg_46
                                have eq_90 := (va_up_ne fl140 (.inl (kJ, 108800, .inr (.inl (vp_updL fG1 (Int32.toNatClampNeg z_81) r_82)))) (isr_ne fs2_1 fs3_1 (by decide))).trans eg_47
                                have eq_91 := (va_up_ne fl140 (.inl (kJ, 108800, .inr (.inl (vp_updL fG1 (Int32.toNatClampNeg z_81) r_82)))) (isr_ne fs6_1 fs3_1 (by decide))).trans eg_49
                                have eq_92 := (va_up_ne fl140 (.inl (kJ, 108800, .inr (.inl (vp_updL fG1 (Int32.toNatClampNeg z_81) r_82)))) (isr_ne fs15_1 fs3_1 (by decide))).trans eg_50
                                have hfr := fr_up (S := (sK [11, 12, 13, 14, 15, 16, 17, 25])) (e := .inl (kJ, 108800, .inr (.inl (vp_updL fG1 (Int32.toNatClampNeg z_81) r_82)))) hfr fs3_1 (by decide)
                                generalize va_up fl140 s3_1 (.inl (kJ, 108800, .inr (.inl (vp_updL fG1 (Int32.toNatClampNeg z_81) r_82)))) = f_84 at hP hD hPI es_f_84 eq_85 eq_86 eq_87 eq_88 eq_89 eq_90 eq_91 eq_92 hfr
                                obtain ⟨i_93, ei_93⟩ : ∃ y : Int32, y = m3 + 1 := ⟨_, rfl⟩
                                refine lv_iinc (v := i_93) (lv' := [(3, .int i_93), (6, .long z_73), (5, .int z_71), (4, .int z_69), (2, .int z_16), (0, .ref g0), (1, .int p0)]) hx hb dX3_back_329 hl (k := 3) rfl (by rw [ei_93]; rfl) (by decide) rfl (fun ls hl => ?_)
                                have ki_93 := inc_toInt ei_93 (by omega)
                                refine lv_goto (tgt := 140) hx hb dX3_back_332 (by decide) ?_
                                exact ih_140 i_93 f_84 _ _ _  (by omega) (by omega) ⟨hfr, ⟨_, _, _, _, SV.mk hU fs1_1 fs2_1 fs3_1 eq_89 eq_90 es_f_84, ZV.mk hU fs6_1 eq_91, MV.mk hU fs15_1 eq_92, bb_plain hBB (plain_ne (o := z_69) (f := z_71) (by omega) (by omega) (by omega))⟩⟩ hPI hP hD hS (lv_sub hl [0, 4, 5, 6] rfl)
                            · have c_76 := mt Int32.lt_iff_toInt_lt.mpr c_76
                              refine lv_iload hx hb dX3_back_231 (lv_at hl 1 rfl) ?_
                              refine va_calli (va_runS (As := [.int z_71]) (rest := []) ⟨hx, hb, hml, hown, hts⟩ (c_X3_isLink l dC dI TT H.size z_71) (va_cwS 1 hts gX3_back_X3_isLink rfl rfl rfl (by decide +kernel) ⟨Nat.le_of_ble_eq_true rfl, Nat.le_of_ble_eq_true rfl⟩) (pr_S (ws := []) (wA := []) (tys := []) vp_nil (hK.sub [] rfl) vd_nil hst hS (ro_free hS hA)) rfl rfl hl.1 rfl (lv_room (Nat.le_of_ble_eq_true rfl)) dX3_back_233 ⟨Nat.le_of_ble_eq_true rfl, Nat.le_of_ble_eq_true rfl⟩) hS (fun q _ h => (ro_free hS hA) q h) (ro_free hS hA) (fun r_94 u t H1 locs ht hvm hw hB hz1 hk1 hS => ?_)
                              have hP := ro_keep hP hk1
                              generalize H1 = H at hP hS ⊢
                              rcases hw with ⟨rfl, hp_95⟩ | ⟨rfl, hp_95⟩
                              · refine lv_if_eq (tgt := 304) hx hb dX3_back_236 (by decide) (fun c9 => absurd c9 (by decide)) (fun _ => ?_)
                                refine lv_lload hx hb dX3_back_239 (lv_at hl 0 rfl) ?_
                                refine lv_lconst (v := 0) hx hb dX3_back_241 (by decide) ?_
                                refine lv_iload_n hx hb dX3_back_242 rfl (lv_at hl 4 rfl) ?_
                                refine lv_iconst (v := 1) hx hb dX3_back_243 (by decide) ?_
                                refine lv_isub hx hb dX3_back_244 ?_
                                refine lv_topi (fun z_96 ez_96 => ?_)
                                have kz_96 := sub_toInt2 ez_96 (by omega) (by omega)
                                refine lv_i2l (v := Int32.toInt64 z_96) hx hb dX3_back_245 rfl ?_
                                have k_z_97 := Int32.toInt_toInt64 z_96
                                refine va_calli (va_runS (As := [.long z_73, .long 0, .long (Int32.toInt64 z_96)]) (rest := []) ⟨hx, hb, hml, hown, hts⟩ (c_X3_in l dC dI TT H.size z_73 0 (Int32.toInt64 z_96)) (va_cwS 3 hts gX3_back_X3_in rfl rfl rfl (by decide +kernel) ⟨Nat.le_of_ble_eq_true rfl, Nat.le_of_ble_eq_true rfl⟩) (pr_S (ws := []) (wA := []) (tys := []) vp_nil (hK.sub [] rfl) vd_nil hst hS (ro_free hS hA)) rfl rfl hl.1 rfl (lv_room (Nat.le_of_ble_eq_true rfl)) dX3_back_246 ⟨Nat.le_of_ble_eq_true rfl, Nat.le_of_ble_eq_true rfl⟩) hS (fun q _ h => (ro_free hS hA) q h) (ro_free hS hA) (fun r_98 u t H1 locs ht hvm hw hB hz1 hk1 hS => ?_)
                                have hP := ro_keep hP hk1
                                generalize H1 = H at hP hS ⊢
                                rcases hw with ⟨rfl, hp_99⟩ | ⟨rfl, hp_99⟩
                                · refine lv_if_ne (tgt := 255) hx hb dX3_back_249 (by decide) (fun _ => ?_) (fun c9 => absurd c9 (by decide))
                                  refine lv_aload_n hx hb dX3_back_255 rfl (lv_at hl 5 rfl) ?_
                                  obtain ⟨k_100, hk_100⟩ := va_plg hg0.1 eq_42
                                  refine va_get (D := (dC, dI)) (ci := 3) (v := .ref s2_1) (C := RX3) (T := TX3) (N := 23) hx hb hts iX3_ hown hK hP k_100 hk_100 rfl 1 (by decide) (hts (.fieldLink RX3 13 "FieldLeavesModel" "classOf" "[I") (by decide +kernel)) (fun _ h9 => h9) rfl dX3_back_256 ?_
                                  refine lv_aload_n hx hb dX3_back_259 rfl (lv_at hl 5 rfl) ?_
                                  obtain ⟨k_101, hk_101⟩ := va_plg hg0.1 eq_42
                                  refine va_get (D := (dC, dI)) (ci := 3) (v := .ref s15_1) (C := RX3) (T := TX3) (N := 23) hx hb hts iX3_ hown hK hP k_101 hk_101 rfl 19 (by decide) (hts (.fieldLink RX3 56 "FieldLeavesModel" "made" "[I") (by decide +kernel)) (fun _ h9 => h9) rfl dX3_back_260 ?_
                                  refine lv_lload hx hb dX3_back_263 (lv_at hl 0 rfl) ?_
                                  refine lv_l2i hx hb dX3_back_265 rfl ?_
                                  refine lv_topi (fun z_102 ez_102 => ?_)
                                  have kz_102 := l2i_sm ez_102 (by omega) (by omega)
                                  obtain ⟨k_103, hk_103⟩ := va_plg fs15_1.1 eg_50
                                  have h_103 : vp_in z_102 24 := (vp_in_iff.mpr (by constructor <;> omega))
                                  refine va_iald hx hb hK hP k_103 0 hk_103 rfl h_103 dX3_back_266 ?_
                                  refine lv_topi (fun z_103 ez_103 => ?_)
                                  have fz_103 := fg_50 _ (vp_lt h_103)
                                  rw [← ez_103] at fz_103
                                  obtain ⟨k_104, hk_104⟩ := va_plg fs2_1.1 eg_47
                                  have h_104 : vp_in z_103 6400 := (vp_in_iff.mpr (by constructor <;> omega))
                                  refine va_iald hx hb hK hP k_104 0 hk_104 rfl h_104 dX3_back_267 ?_
                                  refine lv_topi (fun z_104 ez_104 => ?_)
                                  refine lv_iload hx hb dX3_back_268 (lv_at hl 1 rfl) ?_
                                  refine va_calli (va_runS (As := [.int z_104, .int z_71]) (rest := []) ⟨hx, hb, hml, hown, hts⟩ (q_X3_mayBeIn l dC dI TT H.size z_104 z_71) (va_cwS 2 hts gX3_back_X3_mayBeIn rfl rfl rfl (by decide +kernel) ⟨Nat.le_of_ble_eq_true rfl, Nat.le_of_ble_eq_true rfl⟩) (pr_S (ws := []) (wA := []) (tys := []) vp_nil (hK.sub [] rfl) vd_nil hst hS (ro_free hS hA)) rfl rfl hl.1 rfl (lv_room (Nat.le_of_ble_eq_true rfl)) dX3_back_270 ⟨Nat.le_of_ble_eq_true rfl, Nat.le_of_ble_eq_true rfl⟩) hS (fun q _ h => (ro_free hS hA) q h) (ro_free hS hA) (fun r_105 u t H1 locs ht hvm hw hB hz1 hk1 hS => ?_)
                                  have hP := ro_keep hP hk1
                                  generalize H1 = H at hP hS ⊢
                                  rcases hw with rfl | rfl
                                  · refine lv_if_ne (tgt := 279) hx hb dX3_back_273 (by decide) (fun _ => ?_) (fun c9 => absurd c9 (by decide))
                                    refine lv_aload_n hx hb dX3_back_279 rfl (lv_at hl 5 rfl) ?_
                                    obtain ⟨k_106, hk_106⟩ := va_plg hg0.1 eq_42
                                    refine va_get (D := (dC, dI)) (ci := 3) (v := .ref s3_1) (C := RX3) (T := TX3) (N := 23) hx hb hts iX3_ hown hK hP k_106 hk_106 rfl 2 (by decide) (hts (.fieldLink RX3 17 "FieldLeavesModel" "field" "[J") (by decide +kernel)) (fun _ h9 => h9) rfl dX3_back_280 ?_
                                    refine lv_bipush (v := 17) hx hb dX3_back_283 (by decide) ?_
                                    refine lv_iload hx hb dX3_back_285 (lv_at hl 2 rfl) ?_
                                    refine lv_imul hx hb dX3_back_287 ?_
                                    refine lv_topi (fun z_107 ez_107 => ?_)
                                    have kz_107 := mul17 ez_107 (by omega) (by omega)
                                    refine lv_iload hx hb dX3_back_288 (lv_at hl 1 rfl) ?_
                                    refine lv_iadd hx hb dX3_back_290 ?_
                                    refine lv_topi (fun z_108 ez_108 => ?_)
                                    have kz_108 := add_toInt ez_108 (by omega) (by omega)
                                    refine lv_aload_n hx hb dX3_back_291 rfl (lv_at hl 5 rfl) ?_
                                    obtain ⟨k_109, hk_109⟩ := va_plg hg0.1 eq_42
                                    refine va_get (D := (dC, dI)) (ci := 3) (v := .ref s15_1) (C := RX3) (T := TX3) (N := 23) hx hb hts iX3_ hown hK hP k_109 hk_109 rfl 19 (by decide) (hts (.fieldLink RX3 56 "FieldLeavesModel" "made" "[I") (by decide +kernel)) (fun _ h9 => h9) rfl dX3_back_292 ?_
                                    refine lv_lload hx hb dX3_back_295 (lv_at hl 0 rfl) ?_
                                    refine lv_l2i hx hb dX3_back_297 rfl ?_
                                    refine lv_topi (fun z_110 ez_110 => ?_)
                                    have kz_110 := l2i_sm ez_110 (by omega) (by omega)
                                    obtain ⟨k_111, hk_111⟩ := va_plg fs15_1.1 eg_50
                                    have h_111 : vp_in z_110 24 := (vp_in_iff.mpr (by constructor <;> omega))
                                    refine va_iald hx hb hK hP k_111 0 hk_111 rfl h_111 dX3_back_298 ?_
                                    refine lv_topi (fun z_111 ez_111 => ?_)
                                    have fz_111 := fg_50 _ (vp_lt h_111)
                                    rw [← ez_111] at fz_111
                                    refine lv_i2l (v := Int32.toInt64 z_111) hx hb dX3_back_299 rfl ?_
                                    have k_z_112 := Int32.toInt_toInt64 z_111
                                    obtain ⟨k_113, hk_113⟩ := va_plg fs3_1.1 eg_48
                                    have h_113 : vp_in z_108 108800 := (vp_in_iff.mpr (by constructor <;> omega))
                                    have fw_113 := rgF.link fg_48 (k := Int32.toNatClampNeg z_108) (v := (Int32.toInt64 z_111)) (by constructor <;> omega)
                                    have hD9 := hD
                                    refine va_last hx hb hK hP hD hS k_113 1 hk_113 rfl h_113 dX3_back_300 (fun H locs hP hD hS => ?_)
                                    have hP : va_P (dC, dI) vwCl (va_pl L (va_up fl140 s3_1 (.inl (kJ, 108800, .inr (.inl (vp_updL fG1 (Int32.toNatClampNeg z_108) (Int32.toInt64 z_111))))))) H := by rw [← va_pls hD9 fs3_1.1 hk_113 _]; exact hP
                                    have hD : va_D A (va_pl L (va_up fl140 s3_1 (.inl (kJ, 108800, .inr (.inl (vp_updL fG1 (Int32.toNatClampNeg z_108) (Int32.toInt64 z_111))))))) := by rw [← va_pls hD9 fs3_1.1 hk_113 _]; exact hD
                                    have hPI := hPI.put (e := .inl (kJ, 108800, .inr (.inl (vp_updL fG1 (Int32.toNatClampNeg z_108) (Int32.toInt64 z_111))))) fs3_1 ⟨_, rfl, fw_113⟩
                                    have es_f_114 : va_up fl140 s3_1 (.inl (kJ, 108800, .inr (.inl (vp_updL fG1 (Int32.toNatClampNeg z_108) (Int32.toInt64 z_111))))) s3_1 = .inl (kJ, 108800, .inr (.inl (vp_updL fG1 (Int32.toNatClampNeg z_108) (Int32.toInt64 z_111)))) := va_up_self _ _ _
                                    have eq_115 := (va_up_ne fl140 (.inl (kJ, 108800, .inr (.inl (vp_updL fG1 (Int32.toNatClampNeg z_108) (Int32.toInt64 z_111))))) (isr_ne hg0 fs3_1 (by decide))).trans eq_42
                                    have eq_116 := (va_up_ne fl140 (.inl (kJ, 108800, .inr (.inl (vp_updL fG1 (Int32.toNatClampNeg z_108) (Int32.toInt64 z_111))))) (isr_ne fs8_1 fs3_1 (by decide))).trans eq_43
                                    have eq_117 := (va_up_ne fl140 (.inl (kJ, 108800, .inr (.inl (vp_updL fG1 (Int32.toNatClampNeg z_108) (Int32.toInt64 z_111))))) (isr_ne fs9_1 fs3_1 (by decide))).trans eq_44
                                    have eq_118 := (va_up_ne fl140 (.inl (kJ, 108800, .inr (.inl (vp_updL fG1 (Int32.toNatClampNeg z_108) (Int32.toInt64 z_111))))) (isr_ne fs10_1 fs3_1 (by decide))).trans eq_45
                                    have eq_119 := (va_up_ne fl140 (.inl (kJ, 108800, .inr (.inl (vp_updL fG1 (Int32.toNatClampNeg z_108) (Int32.toInt64 z_111))))) (isr_ne fs1_1 fs3_1 (by decide))).trans eg_46
                                    have eq_120 := (va_up_ne fl140 (.inl (kJ, 108800, .inr (.inl (vp_updL fG1 (Int32.toNatClampNeg z_108) (Int32.toInt64 z_111))))) (isr_ne fs2_1 fs3_1 (by decide))).trans eg_47
                                    have eq_121 := (va_up_ne fl140 (.inl (kJ, 108800, .inr (.inl (vp_updL fG1 (Int32.toNatClampNeg z_108) (Int32.toInt64 z_111))))) (isr_ne fs6_1 fs3_1 (by decide))).trans eg_49
                                    have eq_122 := (va_up_ne fl140 (.inl (kJ, 108800, .inr (.inl (vp_updL fG1 (Int32.toNatClampNeg z_108) (Int32.toInt64 z_111))))) (isr_ne fs15_1 fs3_1 (by decide))).trans eg_50
                                    have hfr := fr_up (S := (sK [11, 12, 13, 14, 15, 16, 17, 25])) (e := .inl (kJ, 108800, .inr (.inl (vp_updL fG1 (Int32.toNatClampNeg z_108) (Int32.toInt64 z_111))))) hfr fs3_1 (by decide)
                                    generalize va_up fl140 s3_1 (.inl (kJ, 108800, .inr (.inl (vp_updL fG1 (Int32.toNatClampNeg z_108) (Int32.toInt64 z_111))))) = f_114 at hP hD hPI es_f_114 eq_115 eq_116 eq_117 eq_118 eq_119 eq_120 eq_121 eq_122 hfr
                                    refine lv_goto (tgt := 329) hx hb dX3_back_301 (by decide) ?_
                                    obtain ⟨i_123, ei_123⟩ : ∃ y : Int32, y = m3 + 1 := ⟨_, rfl⟩
                                    refine lv_iinc (v := i_123) (lv' := [(3, .int i_123), (6, .long z_73), (5, .int z_71), (4, .int z_69), (2, .int z_16), (0, .ref g0), (1, .int p0)]) hx hb dX3_back_329 hl (k := 3) rfl (by rw [ei_123]; rfl) (by decide) rfl (fun ls hl => ?_)
                                    have ki_123 := inc_toInt ei_123 (by omega)
                                    refine lv_goto (tgt := 140) hx hb dX3_back_332 (by decide) ?_
                                    exact ih_140 i_123 f_114 _ _ _  (by omega) (by omega) ⟨hfr, ⟨_, _, _, _, SV.mk hU fs1_1 fs2_1 fs3_1 eq_119 eq_120 es_f_114, ZV.mk hU fs6_1 eq_121, MV.mk hU fs15_1 eq_122, bb_link (o := z_69) (f := z_71) (p := z_68) (q := z_110) hBB (by constructor <;> omega) (by constructor <;> omega) ez_69 ez_111 (by omega) (by constructor <;> omega) (by omega)⟩⟩ hPI hP hD hS (lv_sub hl [0, 4, 5, 6] rfl)
                                  · refine lv_if_ne (tgt := 279) hx hb dX3_back_273 (by decide) (fun c9 => absurd c9 (by decide)) (fun _ => ?_)
                                    refine lv_bipush (v := (-14)) hx hb dX3_back_276 (by decide) ?_
                                    subst eQ
                                    exact W.iret (v := (-14)) hx hb hr (fun t ht hW => ⟨⟨(-14), (), rfl, trivial, fl140, hPI, ⟨(FR.tr hfrE87 (FR.tr hfrE140 hfr (fun _ h => h)) (fun _ h => h)), _, _, _, SV.mk hU fs1_1 fs2_1 fs3_1 eg_46 eg_47 eg_48, bb_end hBB hEl hBl⟩, by rw [ht]; exact hP, hD⟩, hS.F ht⟩) hS.2.2 dX3_back_278
                                · refine lv_if_ne (tgt := 255) hx hb dX3_back_249 (by decide) (fun c9 => absurd c9 (by decide)) (fun _ => ?_)
                                  refine lv_bipush (v := (-12)) hx hb dX3_back_252 (by decide) ?_
                                  subst eQ
                                  exact W.iret (v := (-12)) hx hb hr (fun t ht hW => ⟨⟨(-12), (), rfl, trivial, fl140, hPI, ⟨(FR.tr hfrE87 (FR.tr hfrE140 hfr (fun _ h => h)) (fun _ h => h)), _, _, _, SV.mk hU fs1_1 fs2_1 fs3_1 eg_46 eg_47 eg_48, bb_end hBB hEl hBl⟩, by rw [ht]; exact hP, hD⟩, hS.F ht⟩) hS.2.2 dX3_back_254
                              · refine lv_if_eq (tgt := 304) hx hb dX3_back_236 (by decide) (fun _ => ?_) (fun c9 => absurd c9 (by decide))
                                refine lv_iload hx hb dX3_back_304 (lv_at hl 1 rfl) ?_
                                refine lv_if_lt (tgt := 329) hx hb dX3_back_306 (by decide) (fun c_124 => ?_) (fun c_124 => ?_)
                                · have c_124 := Int32.lt_iff_toInt_lt.mp c_124
                                  obtain ⟨i_125, ei_125⟩ : ∃ y : Int32, y = m3 + 1 := ⟨_, rfl⟩
                                  refine lv_iinc (v := i_125) (lv' := [(3, .int i_125), (6, .long z_73), (5, .int z_71), (4, .int z_69), (2, .int z_16), (0, .ref g0), (1, .int p0)]) hx hb dX3_back_329 hl (k := 3) rfl (by rw [ei_125]; rfl) (by decide) rfl (fun ls hl => ?_)
                                  have ki_125 := inc_toInt ei_125 (by omega)
                                  refine lv_goto (tgt := 140) hx hb dX3_back_332 (by decide) ?_
                                  exact ih_140 i_125 fl140 _ _ _  (by omega) (by omega) ⟨hfr, ⟨_, _, _, _, SV.mk hU fs1_1 fs2_1 fs3_1 eg_46 eg_47 eg_48, ZV.mk hU fs6_1 eg_49, MV.mk hU fs15_1 eg_50, hBB⟩⟩ hPI hP hD hS (lv_sub hl [0, 4, 5, 6] rfl)
                                · have c_124 := mt Int32.lt_iff_toInt_lt.mpr c_124
                                  refine lv_aload_n hx hb dX3_back_309 rfl (lv_at hl 5 rfl) ?_
                                  obtain ⟨k_126, hk_126⟩ := va_plg hg0.1 eq_42
                                  refine va_get (D := (dC, dI)) (ci := 3) (v := .ref s3_1) (C := RX3) (T := TX3) (N := 23) hx hb hts iX3_ hown hK hP k_126 hk_126 rfl 2 (by decide) (hts (.fieldLink RX3 17 "FieldLeavesModel" "field" "[J") (by decide +kernel)) (fun _ h9 => h9) rfl dX3_back_310 ?_
                                  refine lv_bipush (v := 17) hx hb dX3_back_313 (by decide) ?_
                                  refine lv_iload hx hb dX3_back_315 (lv_at hl 2 rfl) ?_
                                  refine lv_imul hx hb dX3_back_317 ?_
                                  refine lv_topi (fun z_127 ez_127 => ?_)
                                  have kz_127 := mul17 ez_127 (by omega) (by omega)
                                  refine lv_iload hx hb dX3_back_318 (lv_at hl 1 rfl) ?_
                                  refine lv_iadd hx hb dX3_back_320 ?_
                                  refine lv_topi (fun z_128 ez_128 => ?_)
                                  have kz_128 := add_toInt ez_128 (by omega) (by omega)
                                  refine lv_iload hx hb dX3_back_321 (lv_at hl 1 rfl) ?_
                                  refine lv_lload hx hb dX3_back_323 (lv_at hl 0 rfl) ?_
                                  refine va_calll (va_runS (As := [.int z_71, .long z_73]) (rest := [.int z_128, .ref s3_1]) ⟨hx, hb, hml, hown, hts⟩ (q_X3_valueOf l dC dI TT H.size kI kJ kZ K L fl140 hPI z_71 z_73) (va_cwS 2 hts gX3_back_X3_valueOf rfl rfl rfl (by decide +kernel) ⟨Nat.le_of_ble_eq_true rfl, Nat.le_of_ble_eq_true rfl⟩) (pr_S (ws := va_pl L fl140) (wA := []) (tys := [(kI, .int), (kJ, .long), (kZ, .boolean)]) hP hK vd_nil hst hS (ro_free hS hA)) rfl rfl hl.1 rfl (lv_room (Nat.le_of_ble_eq_true rfl)) dX3_back_325 ⟨Nat.le_of_ble_eq_true rfl, Nat.le_of_ble_eq_true rfl⟩) hS (fun q _ h => (ro_free hS hA) q h) (ro_free hS hA) (fun r_129 u t H1 locs ht hvm hw hB hz1 hk1 hS => ?_)
                                  have hP := ro_keep hP hk1
                                  generalize H1 = H at hP hS ⊢
                                  obtain ⟨k_130, hk_130⟩ := va_plg fs3_1.1 eg_48
                                  have h_130 : vp_in z_128 108800 := (vp_in_iff.mpr (by constructor <;> omega))
                                  have fw_130 := rgF.plain fg_48 (o := z_69) (f := z_71) (w := z_128) (v := r_129) (by constructor <;> omega) (by omega) (by omega)
                                  have hD9 := hD
                                  refine va_last hx hb hK hP hD hS k_130 1 hk_130 rfl h_130 dX3_back_328 (fun H locs hP hD hS => ?_)
                                  have hP : va_P (dC, dI) vwCl (va_pl L (va_up fl140 s3_1 (.inl (kJ, 108800, .inr (.inl (vp_updL fG1 (Int32.toNatClampNeg z_128) r_129)))))) H := by rw [← va_pls hD9 fs3_1.1 hk_130 _]; exact hP
                                  have hD : va_D A (va_pl L (va_up fl140 s3_1 (.inl (kJ, 108800, .inr (.inl (vp_updL fG1 (Int32.toNatClampNeg z_128) r_129)))))) := by rw [← va_pls hD9 fs3_1.1 hk_130 _]; exact hD
                                  have hPI := hPI.put (e := .inl (kJ, 108800, .inr (.inl (vp_updL fG1 (Int32.toNatClampNeg z_128) r_129)))) fs3_1 ⟨_, rfl, fw_130⟩
                                  have es_f_131 : va_up fl140 s3_1 (.inl (kJ, 108800, .inr (.inl (vp_updL fG1 (Int32.toNatClampNeg z_128) r_129)))) s3_1 = .inl (kJ, 108800, .inr (.inl (vp_updL fG1 (Int32.toNatClampNeg z_128) r_129))) := va_up_self _ _ _
                                  have eq_132 := (va_up_ne fl140 (.inl (kJ, 108800, .inr (.inl (vp_updL fG1 (Int32.toNatClampNeg z_128) r_129)))) (isr_ne hg0 fs3_1 (by decide))).trans eq_42
                                  have eq_133 := (va_up_ne fl140 (.inl (kJ, 108800, .inr (.inl (vp_updL fG1 (Int32.toNatClampNeg z_128) r_129)))) (isr_ne fs8_1 fs3_1 (by decide))).trans eq_43
                                  have eq_134 := (va_up_ne fl140 (.inl (kJ, 108800, .inr (.inl (vp_updL fG1 (Int32.toNatClampNeg z_128) r_129)))) (isr_ne fs9_1 fs3_1 (by decide))).trans eq_44
                                  have eq_135 := (va_up_ne fl140 (.inl (kJ, 108800, .inr (.inl (vp_updL fG1 (Int32.toNatClampNeg z_128) r_129)))) (isr_ne fs10_1 fs3_1 (by decide))).trans eq_45
                                  have eq_136 := (va_up_ne fl140 (.inl (kJ, 108800, .inr (.inl (vp_updL fG1 (Int32.toNatClampNeg z_128) r_129)))) (isr_ne fs1_1 fs3_1 (by decide))).trans eg_46
                                  have eq_137 := (va_up_ne fl140 (.inl (kJ, 108800, .inr (.inl (vp_updL fG1 (Int32.toNatClampNeg z_128) r_129)))) (isr_ne fs2_1 fs3_1 (by decide))).trans eg_47
                                  have eq_138 := (va_up_ne fl140 (.inl (kJ, 108800, .inr (.inl (vp_updL fG1 (Int32.toNatClampNeg z_128) r_129)))) (isr_ne fs6_1 fs3_1 (by decide))).trans eg_49
                                  have eq_139 := (va_up_ne fl140 (.inl (kJ, 108800, .inr (.inl (vp_updL fG1 (Int32.toNatClampNeg z_128) r_129)))) (isr_ne fs15_1 fs3_1 (by decide))).trans eg_50
                                  have hfr := fr_up (S := (sK [11, 12, 13, 14, 15, 16, 17, 25])) (e := .inl (kJ, 108800, .inr (.inl (vp_updL fG1 (Int32.toNatClampNeg z_128) r_129)))) hfr fs3_1 (by decide)
                                  generalize va_up fl140 s3_1 (.inl (kJ, 108800, .inr (.inl (vp_updL fG1 (Int32.toNatClampNeg z_128) r_129)))) = f_131 at hP hD hPI es_f_131 eq_132 eq_133 eq_134 eq_135 eq_136 eq_137 eq_138 eq_139 hfr
                                  obtain ⟨i_140, ei_140⟩ : ∃ y : Int32, y = m3 + 1 := ⟨_, rfl⟩
                                  refine lv_iinc (v := i_140) (lv' := [(3, .int i_140), (6, .long z_73), (5, .int z_71), (4, .int z_69), (2, .int z_16), (0, .ref g0), (1, .int p0)]) hx hb dX3_back_329 hl (k := 3) rfl (by rw [ei_140]; rfl) (by decide) rfl (fun ls hl => ?_)
                                  have ki_140 := inc_toInt ei_140 (by omega)
                                  refine lv_goto (tgt := 140) hx hb dX3_back_332 (by decide) ?_
                                  exact ih_140 i_140 f_131 _ _ _  (by omega) (by omega) ⟨hfr, ⟨_, _, _, _, SV.mk hU fs1_1 fs2_1 fs3_1 eq_136 eq_137 es_f_131, ZV.mk hU fs6_1 eq_138, MV.mk hU fs15_1 eq_139, bb_plain hBB (plain_ne (o := z_69) (f := z_71) (by omega) (by omega) (by omega))⟩⟩ hPI hP hD hS (lv_sub hl [0, 4, 5, 6] rfl)
                          · have c_75 := congrArg Int32.toInt c_75
                            have h9v := hxm (Int32.toNatClampNeg m3) (vp_lt (vp_in_iff.mpr (by constructor <;> omega))) (by rw [← ez_71]; omega)
                            rw [← ez_73] at h9v
                            refine lv_aload_n hx hb dX3_back_213 rfl (lv_at hl 5 rfl) ?_
                            obtain ⟨k_141, hk_141⟩ := va_plg hg0.1 eq_42
                            refine va_get (D := (dC, dI)) (ci := 3) (v := .ref s4_1) (C := RX3) (T := TX3) (N := 23) hx hb hts iX3_ hown hK hP k_141 hk_141 rfl 3 (by decide) (hts (.fieldLink RX3 21 "FieldLeavesModel" "rowSize" "[I") (by decide +kernel)) (fun _ h9 => h9) rfl dX3_back_214 ?_
                            refine lv_iload hx hb dX3_back_217 (lv_at hl 2 rfl) ?_
                            refine lv_lload hx hb dX3_back_219 (lv_at hl 0 rfl) ?_
                            refine lv_l2i hx hb dX3_back_221 rfl ?_
                            refine lv_topi (fun z_142 ez_142 => ?_)
                            have kz_142 := l2i_sm ez_142 (by omega) (by omega)
                            obtain ⟨g_143, e_143, fg_143⟩ := hPI.a14 fs4_1
                            obtain ⟨k_143, hk_143⟩ := va_plg fs4_1.1 e_143
                            have h_143 : vp_in z_69 6400 := (vp_in_iff.mpr (by constructor <;> omega))
                            have fw_143 := updS (P := fun v => -1 ≤ v.toInt ∧ v.toInt ≤ 20) (k := Int32.toNatClampNeg z_69) (v := z_142) fg_143 (by omega)
                            have hD9 := hD
                            refine va_iast hx hb hK hP hD hS k_143 0 hk_143 rfl h_143 dX3_back_222 (fun H locs hP hD hS => ?_)
                            have hP : va_P (dC, dI) vwCl (va_pl L (va_up fl140 s4_1 (.inl (kI, 6400, .inl (upd g_143 (Int32.toNatClampNeg z_69) z_142))))) H := by rw [← va_pls hD9 fs4_1.1 hk_143 _]; exact hP
                            have hD : va_D A (va_pl L (va_up fl140 s4_1 (.inl (kI, 6400, .inl (upd g_143 (Int32.toNatClampNeg z_69) z_142))))) := by rw [← va_pls hD9 fs4_1.1 hk_143 _]; exact hD
                            have hPI := hPI.put (e := .inl (kI, 6400, .inl (upd g_143 (Int32.toNatClampNeg z_69) z_142))) fs4_1 ⟨_, rfl, fw_143⟩
                            have es_f_144 : va_up fl140 s4_1 (.inl (kI, 6400, .inl (upd g_143 (Int32.toNatClampNeg z_69) z_142))) s4_1 = .inl (kI, 6400, .inl (upd g_143 (Int32.toNatClampNeg z_69) z_142)) := va_up_self _ _ _
                            have eq_145 := (va_up_ne fl140 (.inl (kI, 6400, .inl (upd g_143 (Int32.toNatClampNeg z_69) z_142))) (isr_ne hg0 fs4_1 (by decide))).trans eq_42
                            have eq_146 := (va_up_ne fl140 (.inl (kI, 6400, .inl (upd g_143 (Int32.toNatClampNeg z_69) z_142))) (isr_ne fs8_1 fs4_1 (by decide))).trans eq_43
                            have eq_147 := (va_up_ne fl140 (.inl (kI, 6400, .inl (upd g_143 (Int32.toNatClampNeg z_69) z_142))) (isr_ne fs9_1 fs4_1 (by decide))).trans eq_44
                            have eq_148 := (va_up_ne fl140 (.inl (kI, 6400, .inl (upd g_143 (Int32.toNatClampNeg z_69) z_142))) (isr_ne fs10_1 fs4_1 (by decide))).trans eq_45
                            have eq_149 := (va_up_ne fl140 (.inl (kI, 6400, .inl (upd g_143 (Int32.toNatClampNeg z_69) z_142))) (isr_ne fs1_1 fs4_1 (by decide))).trans eg_46
                            have eq_150 := (va_up_ne fl140 (.inl (kI, 6400, .inl (upd g_143 (Int32.toNatClampNeg z_69) z_142))) (isr_ne fs2_1 fs4_1 (by decide))).trans eg_47
                            have eq_151 := (va_up_ne fl140 (.inl (kI, 6400, .inl (upd g_143 (Int32.toNatClampNeg z_69) z_142))) (isr_ne fs3_1 fs4_1 (by decide))).trans eg_48
                            have eq_152 := (va_up_ne fl140 (.inl (kI, 6400, .inl (upd g_143 (Int32.toNatClampNeg z_69) z_142))) (isr_ne fs6_1 fs4_1 (by decide))).trans eg_49
                            have eq_153 := (va_up_ne fl140 (.inl (kI, 6400, .inl (upd g_143 (Int32.toNatClampNeg z_69) z_142))) (isr_ne fs15_1 fs4_1 (by decide))).trans eg_50
                            have hfr := fr_up (S := (sK [11, 12, 13, 14, 15, 16, 17, 25])) (e := .inl (kI, 6400, .inl (upd g_143 (Int32.toNatClampNeg z_69) z_142))) hfr fs4_1 (by decide)
                            generalize va_up fl140 s4_1 (.inl (kI, 6400, .inl (upd g_143 (Int32.toNatClampNeg z_69) z_142))) = f_144 at hP hD hPI es_f_144 eq_145 eq_146 eq_147 eq_148 eq_149 eq_150 eq_151 eq_152 eq_153 hfr
                            refine lv_goto (tgt := 329) hx hb dX3_back_223 (by decide) ?_
                            obtain ⟨i_154, ei_154⟩ : ∃ y : Int32, y = m3 + 1 := ⟨_, rfl⟩
                            refine lv_iinc (v := i_154) (lv' := [(3, .int i_154), (6, .long z_73), (5, .int z_71), (4, .int z_69), (2, .int z_16), (0, .ref g0), (1, .int p0)]) hx hb dX3_back_329 hl (k := 3) rfl (by rw [ei_154]; rfl) (by decide) rfl (fun ls hl => ?_)
                            have ki_154 := inc_toInt ei_154 (by omega)
                            refine lv_goto (tgt := 140) hx hb dX3_back_332 (by decide) ?_
                            exact ih_140 i_154 f_144 _ _ _  (by omega) (by omega) ⟨hfr, ⟨_, _, _, _, SV.mk hU fs1_1 fs2_1 fs3_1 eq_149 eq_150 eq_151, ZV.mk hU fs6_1 eq_152, MV.mk hU fs15_1 eq_153, hBB⟩⟩ hPI hP hD hS (lv_sub hl [0, 4, 5, 6] rfl)
                        · have c_74 := mt Int32.lt_iff_toInt_lt.mpr c_74
                          refine lv_aload_n hx hb dX3_back_184 rfl (lv_at hl 5 rfl) ?_
                          obtain ⟨k_155, hk_155⟩ := va_plg hg0.1 eq_42
                          refine va_get (D := (dC, dI)) (ci := 3) (v := .ref s5_1) (C := RX3) (T := TX3) (N := 23) hx hb hts iX3_ hown hK hP k_155 hk_155 rfl 4 (by decide) (hts (.fieldLink RX3 25 "FieldLeavesModel" "rows" "[I") (by decide +kernel)) (fun _ h9 => h9) rfl dX3_back_185 ?_
                          refine lv_bipush (v := 20) hx hb dX3_back_188 (by decide) ?_
                          refine lv_iload hx hb dX3_back_190 (lv_at hl 2 rfl) ?_
                          refine lv_imul hx hb dX3_back_192 ?_
                          refine lv_topi (fun z_156 ez_156 => ?_)
                          have kz_156 := mul20 ez_156 (by omega) (by omega)
                          refine lv_iload hx hb dX3_back_193 (lv_at hl 1 rfl) ?_
                          refine lv_iadd hx hb dX3_back_195 ?_
                          refine lv_topi (fun z_157 ez_157 => ?_)
                          have kz_157 := add_toInt ez_157 (by omega) (by omega)
                          refine lv_bipush (v := 100) hx hb dX3_back_196 (by decide) ?_
                          refine lv_isub hx hb dX3_back_198 ?_
                          refine lv_topi (fun z_158 ez_158 => ?_)
                          have kz_158 := sub_toInt2 ez_158 (by omega) (by omega)
                          refine lv_lload hx hb dX3_back_199 (lv_at hl 0 rfl) ?_
                          refine lv_l2i hx hb dX3_back_201 rfl ?_
                          refine lv_topi (fun z_159 ez_159 => ?_)
                          obtain ⟨g_160, e_160, fg_160⟩ := hPI.a15 fs5_1
                          obtain ⟨k_160, hk_160⟩ := va_plg fs5_1.1 e_160
                          have h_160 : vp_in z_158 128000 := (vp_in_iff.mpr (by constructor <;> omega))
                          have fw_160 := trivial
                          have hD9 := hD
                          refine va_iast hx hb hK hP hD hS k_160 0 hk_160 rfl h_160 dX3_back_202 (fun H locs hP hD hS => ?_)
                          have hP : va_P (dC, dI) vwCl (va_pl L (va_up fl140 s5_1 (.inl (kI, 128000, .inl (upd g_160 (Int32.toNatClampNeg z_158) z_159))))) H := by rw [← va_pls hD9 fs5_1.1 hk_160 _]; exact hP
                          have hD : va_D A (va_pl L (va_up fl140 s5_1 (.inl (kI, 128000, .inl (upd g_160 (Int32.toNatClampNeg z_158) z_159))))) := by rw [← va_pls hD9 fs5_1.1 hk_160 _]; exact hD
                          have hPI := hPI.put (e := .inl (kI, 128000, .inl (upd g_160 (Int32.toNatClampNeg z_158) z_159))) fs5_1 ⟨_, rfl, fw_160⟩
                          have es_f_161 : va_up fl140 s5_1 (.inl (kI, 128000, .inl (upd g_160 (Int32.toNatClampNeg z_158) z_159))) s5_1 = .inl (kI, 128000, .inl (upd g_160 (Int32.toNatClampNeg z_158) z_159)) := va_up_self _ _ _
                          have eq_162 := (va_up_ne fl140 (.inl (kI, 128000, .inl (upd g_160 (Int32.toNatClampNeg z_158) z_159))) (isr_ne hg0 fs5_1 (by decide))).trans eq_42
                          have eq_163 := (va_up_ne fl140 (.inl (kI, 128000, .inl (upd g_160 (Int32.toNatClampNeg z_158) z_159))) (isr_ne fs8_1 fs5_1 (by decide))).trans eq_43
                          have eq_164 := (va_up_ne fl140 (.inl (kI, 128000, .inl (upd g_160 (Int32.toNatClampNeg z_158) z_159))) (isr_ne fs9_1 fs5_1 (by decide))).trans eq_44
                          have eq_165 := (va_up_ne fl140 (.inl (kI, 128000, .inl (upd g_160 (Int32.toNatClampNeg z_158) z_159))) (isr_ne fs10_1 fs5_1 (by decide))).trans eq_45
                          have eq_166 := (va_up_ne fl140 (.inl (kI, 128000, .inl (upd g_160 (Int32.toNatClampNeg z_158) z_159))) (isr_ne fs1_1 fs5_1 (by decide))).trans eg_46
                          have eq_167 := (va_up_ne fl140 (.inl (kI, 128000, .inl (upd g_160 (Int32.toNatClampNeg z_158) z_159))) (isr_ne fs2_1 fs5_1 (by decide))).trans eg_47
                          have eq_168 := (va_up_ne fl140 (.inl (kI, 128000, .inl (upd g_160 (Int32.toNatClampNeg z_158) z_159))) (isr_ne fs3_1 fs5_1 (by decide))).trans eg_48
                          have eq_169 := (va_up_ne fl140 (.inl (kI, 128000, .inl (upd g_160 (Int32.toNatClampNeg z_158) z_159))) (isr_ne fs6_1 fs5_1 (by decide))).trans eg_49
                          have eq_170 := (va_up_ne fl140 (.inl (kI, 128000, .inl (upd g_160 (Int32.toNatClampNeg z_158) z_159))) (isr_ne fs15_1 fs5_1 (by decide))).trans eg_50
                          have hfr := fr_up (S := (sK [11, 12, 13, 14, 15, 16, 17, 25])) (e := .inl (kI, 128000, .inl (upd g_160 (Int32.toNatClampNeg z_158) z_159))) hfr fs5_1 (by decide)
                          generalize va_up fl140 s5_1 (.inl (kI, 128000, .inl (upd g_160 (Int32.toNatClampNeg z_158) z_159))) = f_161 at hP hD hPI es_f_161 eq_162 eq_163 eq_164 eq_165 eq_166 eq_167 eq_168 eq_169 eq_170 hfr
                          refine lv_goto (tgt := 329) hx hb dX3_back_203 (by decide) ?_
                          obtain ⟨i_171, ei_171⟩ : ∃ y : Int32, y = m3 + 1 := ⟨_, rfl⟩
                          refine lv_iinc (v := i_171) (lv' := [(3, .int i_171), (6, .long z_73), (5, .int z_71), (4, .int z_69), (2, .int z_16), (0, .ref g0), (1, .int p0)]) hx hb dX3_back_329 hl (k := 3) rfl (by rw [ei_171]; rfl) (by decide) rfl (fun ls hl => ?_)
                          have ki_171 := inc_toInt ei_171 (by omega)
                          refine lv_goto (tgt := 140) hx hb dX3_back_332 (by decide) ?_
                          exact ih_140 i_171 f_161 _ _ _  (by omega) (by omega) ⟨hfr, ⟨_, _, _, _, SV.mk hU fs1_1 fs2_1 fs3_1 eq_166 eq_167 eq_168, ZV.mk hU fs6_1 eq_169, MV.mk hU fs15_1 eq_170, hBB⟩⟩ hPI hP hD hS (lv_sub hl [0, 4, 5, 6] rfl)
                  exact loop_140 301 0 fl87 _ _ _  (by omega) (by omega) ⟨FR.rf, ⟨_, _, _, _, SV.mk hU fs1_1 fs2_1 fs3_1 eg_36 eg_37 eg_38, ZV.mk hU fs6_1 eg_39, MV.mk hU fs15_1 eg_40, by have h8 : j3.toInt = z_16.toInt := (by omega); rw [h8] at hBB; exact hBB⟩⟩ hPI hP hD hS (lv_sub hl [0, 1, 2, 3] rfl)
                · have c_41 := mt Int32.le_iff_toInt_le.mpr c_41
                  refine lv_aload_n hx hb dX3_back_92 rfl (lv_at hl 2 rfl) ?_
                  refine lv_iload_n hx hb dX3_back_93 rfl (lv_at hl 0 rfl) ?_
                  refine lv_iconst (v := (-1)) hx hb dX3_back_94 (by decide) ?_
                  obtain ⟨k_172, hk_172⟩ := va_plg hg0.1 eq_32
                  refine va_calll (va_runV (b := g0) (As := [.int j3, .int (-1)]) (rest := []) ⟨hx, hb, hml, hown, hts⟩ (q_X3_told l dC dI TT H.size kI kJ kZ K L fl87 hPI g0 hg0 j3 (-1)) (cwV 2 hts gX3_back_X3_told rfl rfl rfl (by decide +kernel) ⟨Nat.le_of_ble_eq_true rfl, Nat.le_of_ble_eq_true rfl⟩) ⟨pr_blind, va_recv hK hP (ci := 3) rfl hk_172, (pr_S (ws := va_pl L fl87) (wA := []) (tys := [(kI, .int), (kJ, .long), (kZ, .boolean)]) hP hK vd_nil hst hS (ro_free hS hA)).2⟩ rfl rfl hl.1 rfl (lv_room (Nat.le_of_ble_eq_true rfl)) dX3_back_95 ⟨Nat.le_of_ble_eq_true rfl, Nat.le_of_ble_eq_true rfl⟩) hS (fun q _ h => (ro_free hS hA) q h) (ro_free hS hA) (fun r_173 u t H1 locs ht hvm hw hB hz1 hk1 hS => ?_)
                  have hP := ro_keep hP hk1
                  generalize H1 = H at hP hS ⊢
                  refine lv_l2i hx hb dX3_back_98 rfl ?_
                  refine lv_topi (fun z_174 ez_174 => ?_)
                  refine lv_istore (lv' := [(4, .int z_174), (3, .int j3), (2, .int z_16), (0, .ref g0), (1, .int p0)]) hx hb dX3_back_99 hl (by decide) rfl (fun ls hl => ?_)
                  refine lv_aload_n hx hb dX3_back_101 rfl (lv_at hl 3 rfl) ?_
                  obtain ⟨k_175, hk_175⟩ := va_plg hg0.1 eq_32
                  refine va_get (D := (dC, dI)) (ci := 3) (v := .ref s15_1) (C := RX3) (T := TX3) (N := 23) hx hb hts iX3_ hown hK hP k_175 hk_175 rfl 19 (by decide) (hts (.fieldLink RX3 56 "FieldLeavesModel" "made" "[I") (by decide +kernel)) (fun _ h9 => h9) rfl dX3_back_102 ?_
                  refine lv_iload_n hx hb dX3_back_105 rfl (lv_at hl 1 rfl) ?_
                  refine lv_aload_n hx hb dX3_back_106 rfl (lv_at hl 3 rfl) ?_
                  refine lv_iload hx hb dX3_back_107 (lv_at hl 0 rfl) ?_
                  refine lv_aload_n hx hb dX3_back_109 rfl (lv_at hl 3 rfl) ?_
                  refine lv_iload_n hx hb dX3_back_110 rfl (lv_at hl 1 rfl) ?_
                  refine lv_iload hx hb dX3_back_111 (lv_at hl 0 rfl) ?_
                  refine lv_iconst (v := 2) hx hb dX3_back_113 (by decide) ?_
                  refine lv_icmp_ne (tgt := 122) hx hb dX3_back_114 (by decide) (fun c_176 => ?_) (fun c_176 => ?_)
                  · have c_176 := mt Int32.toInt_inj.mp c_176
                    refine lv_bipush (v := 16) hx hb dX3_back_122 (by decide) ?_
                    obtain ⟨k_177, hk_177⟩ := va_plg hg0.1 eq_32
                    refine va_calll (va_runV (b := g0) (As := [.int j3, .int 16]) (rest := [.int z_174, .ref g0, .int j3, .ref s15_1]) ⟨hx, hb, hml, hown, hts⟩ (q_X3_told l dC dI TT H.size kI kJ kZ K L fl87 hPI g0 hg0 j3 16) (cwV 2 hts gX3_back_X3_told rfl rfl rfl (by decide +kernel) ⟨Nat.le_of_ble_eq_true rfl, Nat.le_of_ble_eq_true rfl⟩) ⟨pr_blind, va_recv hK hP (ci := 3) rfl hk_177, (pr_S (ws := va_pl L fl87) (wA := []) (tys := [(kI, .int), (kJ, .long), (kZ, .boolean)]) hP hK vd_nil hst hS (ro_free hS hA)).2⟩ rfl rfl hl.1 rfl (lv_room (Nat.le_of_ble_eq_true rfl)) dX3_back_124 ⟨Nat.le_of_ble_eq_true rfl, Nat.le_of_ble_eq_true rfl⟩) hS (fun q _ h => (ro_free hS hA) q h) (ro_free hS hA) (fun r_178 u t H1 locs ht hvm hw hB hz1 hk1 hS => ?_)
                    have hP := ro_keep hP hk1
                    generalize H1 = H at hP hS ⊢
                    refine lv_l2i hx hb dX3_back_127 rfl ?_
                    refine lv_topi (fun z_179 ez_179 => ?_)
                    have hFc := pl_free hD hS hA
                    obtain ⟨k_180, hk_180⟩ := va_plg hg0.1 eq_32
                    refine va_calli (va_runV (b := g0) (As := [.int z_174, .int z_179]) (rest := [.int j3, .ref s15_1]) ⟨hx, hb, hml, hown, hts⟩ (g_X3_born l dC dI TT H.size kI kJ kZ K L fl87 hPI g0 hg0 z_174 z_179 hU fS fC1 fG1 hSV z1 hZV (bb_room hBB (by omega))) (cwV 2 hts gX3_back_X3_born rfl rfl rfl (by decide +kernel) ⟨Nat.le_of_ble_eq_true rfl, Nat.le_of_ble_eq_true rfl⟩) ⟨pr_blind, va_recv hK hP (ci := 3) rfl hk_180, (pr_S (ws := va_pl L fl87) (wA := va_pl L fl87) (tys := [(kI, .int), (kJ, .long), (kZ, .boolean)]) hP hK (hD.weaken (fun _ _ _ _ => trivial)) hst hS hFc).2⟩ rfl rfl hl.1 rfl (lv_room (Nat.le_of_ble_eq_true rfl)) dX3_back_128 ⟨Nat.le_of_ble_eq_true rfl, Nat.le_of_ble_eq_true rfl⟩) hS (fun q _ h => hFc q h) hFc (fun r_181 u t H1 locs ht hvm hw hB hz1 hk1 hS => ?_)
                    obtain ⟨f_182, hPI, hrel, hP, hD9⟩ := hB
                    rw [ht] at hP
                    have hD := hD9.weaken (fun _ q _ h => hFc q.1 h)
                    obtain ⟨hrelF, hrel⟩ := hrel
                    have eq_183 := (hrelF g0 hg0.1 (by rw [hg0.2]; rfl)).trans eq_32
                    have eq_184 := (hrelF s8_1 fs8_1.1 (by rw [fs8_1.2]; rfl)).trans eq_33
                    have eq_185 := (hrelF s9_1 fs9_1.1 (by rw [fs9_1.2]; rfl)).trans eq_34
                    have eq_186 := (hrelF s10_1 fs10_1.1 (by rw [fs10_1.2]; rfl)).trans eq_35
                    have eq_187 := (hrelF s1_1 fs1_1.1 (by rw [fs1_1.2]; rfl)).trans eg_36
                    have eq_188 := (hrelF s15_1 fs15_1.1 (by rw [fs15_1.2]; rfl)).trans eg_40
                    have hfr := FR.tr hfr hrelF (sK_sub (by decide))
                    generalize H1 = H at hP hS ⊢
                    obtain ⟨oB, fG, hLF, hZV, hSV, hBG⟩ := hrel
                    obtain ⟨hLF2, hr2⟩ := hw
                    obtain rfl : Int32.toNatClampNeg r_181 = oB := hLF2.one hLF
                    have eg_189 := hSV.1 s1_1 fs1_1
                    have fg_189 := (hPI.a11 fs1_1).of eg_189
                    have eg_190 := hSV.2.1 s2_1 fs2_1
                    have fg_190 := (hPI.a12 fs2_1).of eg_190
                    have eg_191 := hSV.2.2 s3_1 fs3_1
                    have fg_191 := (hPI.a13 fs3_1).of eg_191
                    have eg_192 := hZV s6_1 fs6_1
                    have fg_192 := (hPI.a16 fs6_1).of eg_192
                    obtain ⟨k_193, hk_193⟩ := va_plg fs15_1.1 eq_188
                    have h_193 : vp_in j3 24 := (vp_in_iff.mpr (by constructor <;> omega))
                    have fw_193 := updS (P := fun v => 0 ≤ v.toInt ∧ v.toInt < 6400) (k := Int32.toNatClampNeg j3) (v := r_181) fg_40 (by omega)
                    have hD9 := hD
                    refine va_iast hx hb hK hP hD hS k_193 0 hk_193 rfl h_193 dX3_back_131 (fun H locs hP hD hS => ?_)
                    have hP : va_P (dC, dI) vwCl (va_pl L (va_up f_182 s15_1 (.inl (kI, 24, .inl (upd gM (Int32.toNatClampNeg j3) r_181))))) H := by rw [← va_pls hD9 fs15_1.1 hk_193 _]; exact hP
                    have hD : va_D A (va_pl L (va_up f_182 s15_1 (.inl (kI, 24, .inl (upd gM (Int32.toNatClampNeg j3) r_181))))) := by rw [← va_pls hD9 fs15_1.1 hk_193 _]; exact hD
                    have hPI := hPI.put (e := .inl (kI, 24, .inl (upd gM (Int32.toNatClampNeg j3) r_181))) fs15_1 ⟨_, rfl, fw_193⟩
                    have es_f_194 : va_up f_182 s15_1 (.inl (kI, 24, .inl (upd gM (Int32.toNatClampNeg j3) r_181))) s15_1 = .inl (kI, 24, .inl (upd gM (Int32.toNatClampNeg j3) r_181)) := va_up_self _ _ _
                    have eq_195 := (va_up_ne f_182 (.inl (kI, 24, .inl (upd gM (Int32.toNatClampNeg j3) r_181))) (isr_ne hg0 fs15_1 (by decide))).trans eq_183
                    have eq_196 := (va_up_ne f_182 (.inl (kI, 24, .inl (upd gM (Int32.toNatClampNeg j3) r_181))) (isr_ne fs8_1 fs15_1 (by decide))).trans eq_184
                    have eq_197 := (va_up_ne f_182 (.inl (kI, 24, .inl (upd gM (Int32.toNatClampNeg j3) r_181))) (isr_ne fs9_1 fs15_1 (by decide))).trans eq_185
                    have eq_198 := (va_up_ne f_182 (.inl (kI, 24, .inl (upd gM (Int32.toNatClampNeg j3) r_181))) (isr_ne fs10_1 fs15_1 (by decide))).trans eq_186
                    have eq_199 := (va_up_ne f_182 (.inl (kI, 24, .inl (upd gM (Int32.toNatClampNeg j3) r_181))) (isr_ne fs1_1 fs15_1 (by decide))).trans eg_189
                    have eq_200 := (va_up_ne f_182 (.inl (kI, 24, .inl (upd gM (Int32.toNatClampNeg j3) r_181))) (isr_ne fs2_1 fs15_1 (by decide))).trans eg_190
                    have eq_201 := (va_up_ne f_182 (.inl (kI, 24, .inl (upd gM (Int32.toNatClampNeg j3) r_181))) (isr_ne fs3_1 fs15_1 (by decide))).trans eg_191
                    have eq_202 := (va_up_ne f_182 (.inl (kI, 24, .inl (upd gM (Int32.toNatClampNeg j3) r_181))) (isr_ne fs6_1 fs15_1 (by decide))).trans eg_192
                    have hfr := fr_up (S := (sK [11, 12, 13, 14, 15, 16, 17, 25])) (e := .inl (kI, 24, .inl (upd gM (Int32.toNatClampNeg j3) r_181))) hfr fs15_1 (by decide)
                    generalize va_up f_182 s15_1 (.inl (kI, 24, .inl (upd gM (Int32.toNatClampNeg j3) r_181))) = f_194 at hP hD hPI es_f_194 eq_195 eq_196 eq_197 eq_198 eq_199 eq_200 eq_201 eq_202 hfr
                    obtain ⟨i_203, ei_203⟩ : ∃ y : Int32, y = j3 + 1 := ⟨_, rfl⟩
                    refine lv_iinc (v := i_203) (lv' := [(3, .int i_203), (4, .int z_174), (2, .int z_16), (0, .ref g0), (1, .int p0)]) hx hb dX3_back_132 hl (k := 1) rfl (by rw [ei_203]; rfl) (by decide) rfl (fun ls hl => ?_)
                    have ki_203 := inc_toInt ei_203 (by omega)
                    refine lv_goto (tgt := 87) hx hb dX3_back_135 (by decide) ?_
                    exact ih_87 i_203 f_194 _ _ _  (by omega) (by omega) ⟨hfr, ⟨_, _, _, _, SV.mk hU fs1_1 fs2_1 fs3_1 eq_199 eq_200 eq_201, ZV.mk hU fs6_1 eq_202, MV.mk hU fs15_1 es_f_194, by rw [ki_203]; exact bb_step hBB hLF hBG (by omega) rfl (clamp_int (by omega)), by omega⟩⟩ hPI hP hD hS (lv_sub hl [0, 2, 3, 4] rfl)
                  · have c_176 := congrArg Int32.toInt c_176
                    refine lv_bipush (v := 13) hx hb dX3_back_117 (by decide) ?_
                    refine lv_goto (tgt := 124) hx hb dX3_back_119 (by decide) ?_
                    obtain ⟨k_204, hk_204⟩ := va_plg hg0.1 eq_32
                    refine va_calll (va_runV (b := g0) (As := [.int j3, .int 13]) (rest := [.int z_174, .ref g0, .int j3, .ref s15_1]) ⟨hx, hb, hml, hown, hts⟩ (q_X3_told l dC dI TT H.size kI kJ kZ K L fl87 hPI g0 hg0 j3 13) (cwV 2 hts gX3_back_X3_told rfl rfl rfl (by decide +kernel) ⟨Nat.le_of_ble_eq_true rfl, Nat.le_of_ble_eq_true rfl⟩) ⟨pr_blind, va_recv hK hP (ci := 3) rfl hk_204, (pr_S (ws := va_pl L fl87) (wA := []) (tys := [(kI, .int), (kJ, .long), (kZ, .boolean)]) hP hK vd_nil hst hS (ro_free hS hA)).2⟩ rfl rfl hl.1 rfl (lv_room (Nat.le_of_ble_eq_true rfl)) dX3_back_124 ⟨Nat.le_of_ble_eq_true rfl, Nat.le_of_ble_eq_true rfl⟩) hS (fun q _ h => (ro_free hS hA) q h) (ro_free hS hA) (fun r_205 u t H1 locs ht hvm hw hB hz1 hk1 hS => ?_)
                    have hP := ro_keep hP hk1
                    generalize H1 = H at hP hS ⊢
                    refine lv_l2i hx hb dX3_back_127 rfl ?_
                    refine lv_topi (fun z_206 ez_206 => ?_)
                    have hFc := pl_free hD hS hA
                    obtain ⟨k_207, hk_207⟩ := va_plg hg0.1 eq_32
                    refine va_calli (va_runV (b := g0) (As := [.int z_174, .int z_206]) (rest := [.int j3, .ref s15_1]) ⟨hx, hb, hml, hown, hts⟩ (g_X3_born l dC dI TT H.size kI kJ kZ K L fl87 hPI g0 hg0 z_174 z_206 hU fS fC1 fG1 hSV z1 hZV (bb_room hBB (by omega))) (cwV 2 hts gX3_back_X3_born rfl rfl rfl (by decide +kernel) ⟨Nat.le_of_ble_eq_true rfl, Nat.le_of_ble_eq_true rfl⟩) ⟨pr_blind, va_recv hK hP (ci := 3) rfl hk_207, (pr_S (ws := va_pl L fl87) (wA := va_pl L fl87) (tys := [(kI, .int), (kJ, .long), (kZ, .boolean)]) hP hK (hD.weaken (fun _ _ _ _ => trivial)) hst hS hFc).2⟩ rfl rfl hl.1 rfl (lv_room (Nat.le_of_ble_eq_true rfl)) dX3_back_128 ⟨Nat.le_of_ble_eq_true rfl, Nat.le_of_ble_eq_true rfl⟩) hS (fun q _ h => hFc q h) hFc (fun r_208 u t H1 locs ht hvm hw hB hz1 hk1 hS => ?_)
                    obtain ⟨f_209, hPI, hrel, hP, hD9⟩ := hB
                    rw [ht] at hP
                    have hD := hD9.weaken (fun _ q _ h => hFc q.1 h)
                    obtain ⟨hrelF, hrel⟩ := hrel
                    have eq_210 := (hrelF g0 hg0.1 (by rw [hg0.2]; rfl)).trans eq_32
                    have eq_211 := (hrelF s8_1 fs8_1.1 (by rw [fs8_1.2]; rfl)).trans eq_33
                    have eq_212 := (hrelF s9_1 fs9_1.1 (by rw [fs9_1.2]; rfl)).trans eq_34
                    have eq_213 := (hrelF s10_1 fs10_1.1 (by rw [fs10_1.2]; rfl)).trans eq_35
                    have eq_214 := (hrelF s1_1 fs1_1.1 (by rw [fs1_1.2]; rfl)).trans eg_36
                    have eq_215 := (hrelF s15_1 fs15_1.1 (by rw [fs15_1.2]; rfl)).trans eg_40
                    have hfr := FR.tr hfr hrelF (sK_sub (by decide))
                    generalize H1 = H at hP hS ⊢
                    obtain ⟨oB, fG, hLF, hZV, hSV, hBG⟩ := hrel
                    obtain ⟨hLF2, hr2⟩ := hw
                    obtain rfl : Int32.toNatClampNeg r_208 = oB := hLF2.one hLF
                    have eg_216 := hSV.1 s1_1 fs1_1
                    have fg_216 := (hPI.a11 fs1_1).of eg_216
                    have eg_217 := hSV.2.1 s2_1 fs2_1
                    have fg_217 := (hPI.a12 fs2_1).of eg_217
                    have eg_218 := hSV.2.2 s3_1 fs3_1
                    have fg_218 := (hPI.a13 fs3_1).of eg_218
                    have eg_219 := hZV s6_1 fs6_1
                    have fg_219 := (hPI.a16 fs6_1).of eg_219
                    obtain ⟨k_220, hk_220⟩ := va_plg fs15_1.1 eq_215
                    have h_220 : vp_in j3 24 := (vp_in_iff.mpr (by constructor <;> omega))
                    have fw_220 := updS (P := fun v => 0 ≤ v.toInt ∧ v.toInt < 6400) (k := Int32.toNatClampNeg j3) (v := r_208) fg_40 (by omega)
                    have hD9 := hD
                    refine va_iast hx hb hK hP hD hS k_220 0 hk_220 rfl h_220 dX3_back_131 (fun H locs hP hD hS => ?_)
                    have hP : va_P (dC, dI) vwCl (va_pl L (va_up f_209 s15_1 (.inl (kI, 24, .inl (upd gM (Int32.toNatClampNeg j3) r_208))))) H := by rw [← va_pls hD9 fs15_1.1 hk_220 _]; exact hP
                    have hD : va_D A (va_pl L (va_up f_209 s15_1 (.inl (kI, 24, .inl (upd gM (Int32.toNatClampNeg j3) r_208))))) := by rw [← va_pls hD9 fs15_1.1 hk_220 _]; exact hD
                    have hPI := hPI.put (e := .inl (kI, 24, .inl (upd gM (Int32.toNatClampNeg j3) r_208))) fs15_1 ⟨_, rfl, fw_220⟩
                    have es_f_221 : va_up f_209 s15_1 (.inl (kI, 24, .inl (upd gM (Int32.toNatClampNeg j3) r_208))) s15_1 = .inl (kI, 24, .inl (upd gM (Int32.toNatClampNeg j3) r_208)) := va_up_self _ _ _
                    have eq_222 := (va_up_ne f_209 (.inl (kI, 24, .inl (upd gM (Int32.toNatClampNeg j3) r_208))) (isr_ne hg0 fs15_1 (by decide))).trans eq_210
                    have eq_223 := (va_up_ne f_209 (.inl (kI, 24, .inl (upd gM (Int32.toNatClampNeg j3) r_208))) (isr_ne fs8_1 fs15_1 (by decide))).trans eq_211
                    have eq_224 := (va_up_ne f_209 (.inl (kI, 24, .inl (upd gM (Int32.toNatClampNeg j3) r_208))) (isr_ne fs9_1 fs15_1 (by decide))).trans eq_212
                    have eq_225 := (va_up_ne f_209 (.inl (kI, 24, .inl (upd gM (Int32.toNatClampNeg j3) r_208))) (isr_ne fs10_1 fs15_1 (by decide))).trans eq_213
                    have eq_226 := (va_up_ne f_209 (.inl (kI, 24, .inl (upd gM (Int32.toNatClampNeg j3) r_208))) (isr_ne fs1_1 fs15_1 (by decide))).trans eg_216
                    have eq_227 := (va_up_ne f_209 (.inl (kI, 24, .inl (upd gM (Int32.toNatClampNeg j3) r_208))) (isr_ne fs2_1 fs15_1 (by decide))).trans eg_217
                    have eq_228 := (va_up_ne f_209 (.inl (kI, 24, .inl (upd gM (Int32.toNatClampNeg j3) r_208))) (isr_ne fs3_1 fs15_1 (by decide))).trans eg_218
                    have eq_229 := (va_up_ne f_209 (.inl (kI, 24, .inl (upd gM (Int32.toNatClampNeg j3) r_208))) (isr_ne fs6_1 fs15_1 (by decide))).trans eg_219
                    have hfr := fr_up (S := (sK [11, 12, 13, 14, 15, 16, 17, 25])) (e := .inl (kI, 24, .inl (upd gM (Int32.toNatClampNeg j3) r_208))) hfr fs15_1 (by decide)
                    generalize va_up f_209 s15_1 (.inl (kI, 24, .inl (upd gM (Int32.toNatClampNeg j3) r_208))) = f_221 at hP hD hPI es_f_221 eq_222 eq_223 eq_224 eq_225 eq_226 eq_227 eq_228 eq_229 hfr
                    obtain ⟨i_230, ei_230⟩ : ∃ y : Int32, y = j3 + 1 := ⟨_, rfl⟩
                    refine lv_iinc (v := i_230) (lv' := [(3, .int i_230), (4, .int z_174), (2, .int z_16), (0, .ref g0), (1, .int p0)]) hx hb dX3_back_132 hl (k := 1) rfl (by rw [ei_230]; rfl) (by decide) rfl (fun ls hl => ?_)
                    have ki_230 := inc_toInt ei_230 (by omega)
                    refine lv_goto (tgt := 87) hx hb dX3_back_135 (by decide) ?_
                    exact ih_87 i_230 f_221 _ _ _  (by omega) (by omega) ⟨hfr, ⟨_, _, _, _, SV.mk hU fs1_1 fs2_1 fs3_1 eq_226 eq_227 eq_228, ZV.mk hU fs6_1 eq_229, MV.mk hU fs15_1 es_f_221, by rw [ki_230]; exact bb_step hBB hLF hBG (by omega) rfl (clamp_int (by omega)), by omega⟩⟩ hPI hP hD hS (lv_sub hl [0, 2, 3, 4] rfl)
            exact loop_87 25 0 f_21 _ _ _  (by omega) (by omega) ⟨FR.rf, ⟨fC, fF, zM, _, SV.mk hU fs1_1 fs2_1 fs3_1 eq_23 eq_24 eq_25, ZV.mk hU fs6_1 eg_30, MV.mk hU fs15_1 e_31, by rw [k0_]; exact bb_0 hrS hrF hGA hMK hcz, by omega⟩⟩ hPI hP hD hS (lv_sub hl [0, 1, 2, 3] rfl)
          · have c_17 := mt Int32.le_iff_toInt_le.mpr c_17
            refine lv_aload_n hx hb dX3_back_40 rfl (lv_at hl 2 rfl) ?_
            refine lv_iload_n hx hb dX3_back_41 rfl (lv_at hl 0 rfl) ?_
            refine lv_iconst (v := (-1)) hx hb dX3_back_42 (by decide) ?_
            obtain ⟨k_231, hk_231⟩ := va_plg hg0.1 e_1
            refine va_calll (va_runV (b := g0) (As := [.int i3, .int (-1)]) (rest := []) ⟨hx, hb, hml, hown, hts⟩ (q_X3_told l dC dI TT H.size kI kJ kZ K L f hPI g0 hg0 i3 (-1)) (cwV 2 hts gX3_back_X3_told rfl rfl rfl (by decide +kernel) ⟨Nat.le_of_ble_eq_true rfl, Nat.le_of_ble_eq_true rfl⟩) ⟨pr_blind, va_recv hK hP (ci := 3) rfl hk_231, (pr_S (ws := va_pl L f) (wA := []) (tys := [(kI, .int), (kJ, .long), (kZ, .boolean)]) hP hK vd_nil hst hS (ro_free hS hA)).2⟩ rfl rfl hl.1 rfl (lv_room (Nat.le_of_ble_eq_true rfl)) dX3_back_43 ⟨Nat.le_of_ble_eq_true rfl, Nat.le_of_ble_eq_true rfl⟩) hS (fun q _ h => (ro_free hS hA) q h) (ro_free hS hA) (fun r_232 u t H1 locs ht hvm hw hB hz1 hk1 hS => ?_)
            have hP := ro_keep hP hk1
            generalize H1 = H at hP hS ⊢
            refine lv_ldc2 hx hb hown (hts (.constantLong RX3 142 (2)) (by decide +kernel)) dX3_back_46 ?_
            refine W.lcmp hx hb dX3_back_49 ?_
            refine lv_if_ne (tgt := 75) hx hb dX3_back_50 (by decide) (fun c_233 => ?_) (fun c_233 => ?_)
            · have c_233 := mt (fun h9 => (lg_cmp_eq r_232 2).mpr (Int64.toInt_inj.mp h9)) c_233
              obtain ⟨i_234, ei_234⟩ : ∃ y : Int32, y = i3 + 1 := ⟨_, rfl⟩
              refine lv_iinc (v := i_234) (lv' := [(3, .int i_234), (2, .int z_16), (0, .ref g0), (1, .int p0)]) hx hb dX3_back_75 hl (k := 0) rfl (by rw [ei_234]; rfl) (by decide) rfl (fun ls hl => ?_)
              have ki_234 := inc_toInt ei_234 (by omega)
              refine lv_goto (tgt := 35) hx hb dX3_back_78 (by decide) ?_
              exact ih_35 i_234 f _ _ _  (by omega) (by omega) rfl hPI hP hD hS (lv_sub hl [0, 1, 2, 3] rfl)
            · have c_233 := congrArg Int64.toInt ((lg_cmp_eq r_232 2).mp c_233)
              refine lv_aload_n hx hb dX3_back_53 rfl (lv_at hl 2 rfl) ?_
              refine lv_iload_n hx hb dX3_back_54 rfl (lv_at hl 0 rfl) ?_
              refine lv_bipush (v := 13) hx hb dX3_back_55 (by decide) ?_
              obtain ⟨k_235, hk_235⟩ := va_plg hg0.1 e_1
              refine va_calll (va_runV (b := g0) (As := [.int i3, .int 13]) (rest := []) ⟨hx, hb, hml, hown, hts⟩ (q_X3_told l dC dI TT H.size kI kJ kZ K L f hPI g0 hg0 i3 13) (cwV 2 hts gX3_back_X3_told rfl rfl rfl (by decide +kernel) ⟨Nat.le_of_ble_eq_true rfl, Nat.le_of_ble_eq_true rfl⟩) ⟨pr_blind, va_recv hK hP (ci := 3) rfl hk_235, (pr_S (ws := va_pl L f) (wA := []) (tys := [(kI, .int), (kJ, .long), (kZ, .boolean)]) hP hK vd_nil hst hS (ro_free hS hA)).2⟩ rfl rfl hl.1 rfl (lv_room (Nat.le_of_ble_eq_true rfl)) dX3_back_57 ⟨Nat.le_of_ble_eq_true rfl, Nat.le_of_ble_eq_true rfl⟩) hS (fun q _ h => (ro_free hS hA) q h) (ro_free hS hA) (fun r_236 u t H1 locs ht hvm hw hB hz1 hk1 hS => ?_)
              have hP := ro_keep hP hk1
              generalize H1 = H at hP hS ⊢
              refine lv_l2i hx hb dX3_back_60 rfl ?_
              refine lv_topi (fun z_237 ez_237 => ?_)
              refine lv_i2l (v := Int32.toInt64 z_237) hx hb dX3_back_61 rfl ?_
              have k_z_238 := Int32.toInt_toInt64 z_237
              refine lv_lconst (v := 0) hx hb dX3_back_62 (by decide) ?_
              refine lv_ldc2 hx hb hown (hts (.constantLong RX3 89 (1000)) (by decide +kernel)) dX3_back_63 ?_
              refine va_calli (va_runS (As := [.long (Int32.toInt64 z_237), .long 0, .long 1000]) (rest := []) ⟨hx, hb, hml, hown, hts⟩ (c_X3_in l dC dI TT H.size (Int32.toInt64 z_237) 0 1000) (va_cwS 3 hts gX3_back_X3_in rfl rfl rfl (by decide +kernel) ⟨Nat.le_of_ble_eq_true rfl, Nat.le_of_ble_eq_true rfl⟩) (pr_S (ws := []) (wA := []) (tys := []) vp_nil (hK.sub [] rfl) vd_nil hst hS (ro_free hS hA)) rfl rfl hl.1 rfl (lv_room (Nat.le_of_ble_eq_true rfl)) dX3_back_66 ⟨Nat.le_of_ble_eq_true rfl, Nat.le_of_ble_eq_true rfl⟩) hS (fun q _ h => (ro_free hS hA) q h) (ro_free hS hA) (fun r_239 u t H1 locs ht hvm hw hB hz1 hk1 hS => ?_)
              have hP := ro_keep hP hk1
              generalize H1 = H at hP hS ⊢
              rcases hw with ⟨rfl, hp_240⟩ | ⟨rfl, hp_240⟩
              · refine lv_if_ne (tgt := 75) hx hb dX3_back_69 (by decide) (fun _ => ?_) (fun c9 => absurd c9 (by decide))
                obtain ⟨i_241, ei_241⟩ : ∃ y : Int32, y = i3 + 1 := ⟨_, rfl⟩
                refine lv_iinc (v := i_241) (lv' := [(3, .int i_241), (2, .int z_16), (0, .ref g0), (1, .int p0)]) hx hb dX3_back_75 hl (k := 0) rfl (by rw [ei_241]; rfl) (by decide) rfl (fun ls hl => ?_)
                have ki_241 := inc_toInt ei_241 (by omega)
                refine lv_goto (tgt := 35) hx hb dX3_back_78 (by decide) ?_
                exact ih_35 i_241 f _ _ _  (by omega) (by omega) rfl hPI hP hD hS (lv_sub hl [0, 1, 2, 3] rfl)
              · refine lv_if_ne (tgt := 75) hx hb dX3_back_69 (by decide) (fun c9 => absurd c9 (by decide)) (fun _ => ?_)
                refine lv_bipush (v := (-18)) hx hb dX3_back_72 (by decide) ?_
                subst eQ
                exact W.iret (v := (-18)) hx hb hr (fun t ht hW => ⟨⟨(-18), (), rfl, trivial, f, hPI, ⟨hfr, GX.mono hGX (by omega)⟩, by rw [ht]; exact hP, hD⟩, hS.F ht⟩) hS.2.2 dX3_back_74
      exact loop_35 25 0 f _ _ _  (by omega) (by omega) rfl hPI hP hD hS hl
    · have c_11 := congrArg Int32.toInt c_11
      refine lv_bipush (v := (-3)) hx hb dX3_back_16 (by decide) ?_
      subst eQ
      exact W.iret (v := (-3)) hx hb hr (fun t ht hW => ⟨⟨(-3), (), rfl, trivial, f, hPI, ⟨hfr, GX.mono hGX (by omega)⟩, by rw [ht]; exact hP, hD⟩, hS.F ht⟩) hS.2.2 dX3_back_18
  · refine lv_if_ne (tgt := 9) hx hb dX3_back_4 (by decide) (fun c9 => absurd c9 (by decide)) (fun _ => ?_)
    refine lv_iconst (v := (-1)) hx hb dX3_back_7 (by decide) ?_
    subst eQ
    exact W.iret (v := (-1)) hx hb hr (fun t ht hW => ⟨⟨(-1), (), rfl, trivial, f, hPI, ⟨hfr, GX.mono hGX (by omega)⟩, by rw [ht]; exact hP, hD⟩, hS.F ht⟩) hS.2.2 dX3_back_8
