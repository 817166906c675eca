set_option maxRecDepth 20000 in
theorem in_v_X3_back_X3 : ∀ w ∈ u_ws RX3 TX3 23, w ∈ wsX3_back := by decide +kernel
set_option maxRecDepth 100000 in
set_option maxHeartbeats 4000000 in
theorem v_X3_back (l : Launch) (dC : Nat → ClassId) (dI : Nat → Nat → Nat) (TT : Nat × Nat × Nat) (sz : Nat) (kI kJ kZ : ClassId) (K : Nat → Nat) (L : List Nat) (f : Nat → va_E) (hPI : PR kI kJ kZ K L f) (g0 : Nat) (hg0 : isr K L 10 g0) (p0 : Int32) (hU : UN K L) (fS fC : Nat → Int32) (fF : Nat → Int64) (fR fW lo ld : Nat → Int32) (lv : Nat → Int64) (lm pa : Int32) (hRV : RV kI kJ K L f g0 fS fC fF fR fW lo ld lv lm pa) (ll : List (Int32 × Int32 × Int64)) (hLL : LSv lm lo ld lv ll) (nO : Nat) (hFIT : FIT ll nO) (nE nB : Nat) (hGI : GI fS fC fF nE nB) (hcap : 24 * (12 + nE) ≤ 6376 ∨ nB ≤ 6376) : Met l yX3_back wsX3_back ({ frames := 2, cells := 0, slots := 0, locals := 45 } : Room) (va_Pc [.ref g0, .int p0] (pr dC dI (va_pl L f) (va_pl L f) [(kI, .int), (kJ, .long), (kZ, .boolean)] sz TT)) (va_Qi (fun (r : Int32) (u : Unit) => rs_back ll nO p0 r) (fun (_ : Unit) t => ∃ f2 : Nat → va_E, PR kI kJ kZ K L f2 ∧ (FR (sK [11, 12, 13, 14, 15, 16, 17, 25]) K L f f2 ∧ ∃ (fS2 fC2 : Nat → Int32) (fF2 : Nat → Int64) (fR2 fW2 : Nat → Int32), rv_back fS fC fF fR fW ll nO nE nB p0 fS2 fC2 fF2 fR2 fW2 ∧ RV kI kJ K L f2 g0 fS2 fC2 fF2 fR2 fW2 lo ld lv lm pa) ∧ va_P (dC, dI) vwCl (va_pl L f2) t.heap ∧ va_D (va_A (va_pl L f) sz) (va_pl L f2)) (va_A (va_pl L f) sz)) 0 0 (va_A (va_pl L f) sz) := by
  refine Met.ofW (cc := cX3_back) (maxL := 8) (ret := (some .int)) (by decide) rfl ?_
  intro p e s m args below meth c s₁ B hml hv
  obtain ⟨rfl, hsz, hP, hK, hD0, hst⟩ := hv
  have hx := B.exec
  have hb := B.bytes
  have hr := B.returns
  have hts := atoms_spec (ws := wsX3_back) B.pre
  have hown : s.vm.findClass RX3 = some m.cls := findClass_of_methodNamed B.named
  have hlocks := B.notSynchronized
  have iX3_ := in_v_X3_back_X3
  subst hsz
  have hD := hD0.self (sz := s.heap.size)
  generalize hAe : va_A (va_pl L f) s.heap.size = A at hD hst ⊢
  have hA : ∀ q : Nat, s.heap.size ≤ q → A q := fun q h => by rw [← hAe]; exact Or.inr h
  have hS : va_S A s.heap s.heap [] := va_S.rf
  have hl := lv_entry ([.ref g0, .int p0]) (n := 8) (Nat.le_of_ble_eq_true rfl)
  rw [lg_entry_eq]
  generalize (lg_sl ([.ref g0, .int p0]) ++ List.replicate (8 - (lg_sl ([.ref g0, .int p0])).length) Slot.unset).toArray = ls at hl ⊢
  have hl : lv_has ls 8 [(0, .ref g0), (1, .int p0)] := hl
  have km18_ : Int32.toInt (-18) = -18 := by decide
  have km14_ : Int32.toInt (-14) = -14 := by decide
  have km12_ : Int32.toInt (-12) = -12 := by decide
  have km3_ : Int32.toInt (-3) = -3 := by decide
  have km1_ : Int32.toInt (-1) = -1 := by decide
  have k0_ : Int32.toInt 0 = 0 := by decide
  have k1_ : Int32.toInt 1 = 1 := by decide
  have k2_ : Int32.toInt 2 = 2 := by decide
  have k9_ : Int32.toInt 9 = 9 := by decide
  have k13_ : Int32.toInt 13 = 13 := by decide
  have k16_ : Int32.toInt 16 = 16 := by decide
  have k100_ : Int32.toInt 100 = 100 := by decide
  have kl0_ : Int64.toInt 0 = 0 := by decide
  have kl2_ : Int64.toInt 2 = 2 := by decide
  have kl1000_ : Int64.toInt 1000 = 1000 := by decide
  have hfr : FR (sK [11, 12, 13, 14, 15, 16, 17, 25]) K L f f := FR.rf
  have cl_0 : Int32.toNatClampNeg 0 = 0 := by decide
  refine W_nameQ (fun Q0 eQ => ?_)
  (refine hPI.a10E hg0 ?_; intro s1_1 s2_1 s3_1 s4_1 s5_1 s6_1 s7_1 pa_1 lm_1 s8_1 s9_1 s10_1 fm_1 s11_1 nm_1 s12_1 s13_1 s14_1 rm_1 s15_1 s16_1 s17_1 s18_1 e_1 fs1_1 fs2_1 fs3_1 fs4_1 fs5_1 fs6_1 fs7_1 flm_1 fs8_1 fs9_1 fs10_1 ffm_1 fs11_1 fnm_1 fs12_1 fs13_1 fs14_1 frm_1 fs15_1 fs16_1 fs17_1 fs18_1)
  obtain ⟨k_1, hk_1⟩ := va_plg hg0.1 e_1
  have eg11 := hRV.1.1 s1_1 fs1_1
  have fg11 := (hPI.a11 fs1_1).of eg11
  have eg12 := hRV.1.2.1 s2_1 fs2_1
  have fg12 := (hPI.a12 fs2_1).of eg12
  have eg13 := hRV.1.2.2 s3_1 fs3_1
  have fg13 := (hPI.a13 fs3_1).of eg13
  have eg14 := hRV.2.1.1 s4_1 fs4_1
  have fg14 := (hPI.a14 fs4_1).of eg14
  have eg15 := hRV.2.1.2 s5_1 fs5_1
  have fg15 := (hPI.a15 fs5_1).of eg15
  have eg18 := hRV.2.2.1.1 s8_1 fs8_1
  have fg18 := (hPI.a18 fs8_1).of eg18
  have eg19 := hRV.2.2.1.2.1 s9_1 fs9_1
  have fg19 := (hPI.a19 fs9_1).of eg19
  have eg20 := hRV.2.2.1.2.2 s10_1 fs10_1
  have fg20 := (hPI.a20 fs10_1).of eg20
  obtain rfl : lm_1 = lm := (show cI (f g0) 8 = _ from by rw [e_1]; rfl).symm.trans hRV.2.2.2.1
  obtain rfl : pa_1 = pa := (show cI (f g0) 7 = _ from by rw [e_1]; rfl).symm.trans hRV.2.2.2.2
  have hrS := fg11
  have hrF := fg13
  have hn24 := hFIT.1
  have hln := hLL.1
  refine lv_iload_n hx hb dX3_back_0 rfl (lv_at hl 1 rfl) ?_
  refine va_calli (va_runS (As := [.int p0]) (rest := []) ⟨hx, hb, hml, hown, hts⟩ (c_X3_isSlot l dC dI TT s.heap.size p0) (va_cwS 1 hts gX3_back_X3_isSlot rfl rfl rfl (by decide +kernel) ⟨Nat.le_of_ble_eq_true rfl, Nat.le_of_ble_eq_true rfl⟩) (pr_S (ws := []) (wA := []) (tys := []) vp_nil (hK.sub [] rfl) vd_nil hst hS (ro_free hS hA)) rfl rfl hl.1 rfl (lv_room (Nat.le_of_ble_eq_true rfl)) dX3_back_1 ⟨Nat.le_of_ble_eq_true rfl, Nat.le_of_ble_eq_true rfl⟩) hS (fun q _ h => (ro_free hS hA) q h) (ro_free hS hA) (fun r_2 u t H1 locs ht hvm hw hB hz1 hk1 hS => ?_)
  have hP := ro_keep hP hk1
  generalize H1 = H at hP hS ⊢
  rcases hw with ⟨rfl, hp_3⟩ | ⟨rfl, hp_3⟩
  · refine lv_if_ne (tgt := 9) hx hb dX3_back_4 (by decide) (fun _ => ?_) (fun c9 => absurd c9 (by decide))
    refine lv_aload_n hx hb dX3_back_9 rfl (lv_at hl 0 rfl) ?_
    obtain ⟨k_4, hk_4⟩ := va_plg hg0.1 e_1
    refine va_get (D := (dC, dI)) (ci := 3) (v := .int lm_1) (C := RX3) (T := TX3) (N := 23) hx hb hts iX3_ hown hK hP k_4 hk_4 rfl 8 (by decide) (hts (.fieldLink RX3 184 "FieldLeavesModel" "leafMany" "I") (by decide +kernel)) (fun _ h9 => h9) rfl dX3_back_10 ?_
    refine lv_if_ne (tgt := 19) hx hb dX3_back_13 (by decide) (fun c_5 => ?_) (fun c_5 => ?_)
    · have c_5 := mt Int32.toInt_inj.mp c_5
      have hne : ¬ ll = [] := fun h9 => by rw [h9] at hln; simp at hln; omega
      refine lv_aload_n hx hb dX3_back_19 rfl (lv_at hl 0 rfl) ?_
      obtain ⟨k_6, hk_6⟩ := va_plg hg0.1 e_1
      refine va_get (D := (dC, dI)) (ci := 3) (v := .ref s8_1) (C := RX3) (T := TX3) (N := 23) hx hb hts iX3_ hown hK hP k_6 hk_6 rfl 9 (by decide) (hts (.fieldLink RX3 35 "FieldLeavesModel" "leafObject" "[I") (by decide +kernel)) (fun _ h9 => h9) rfl dX3_back_20 ?_
      refine lv_aload_n hx hb dX3_back_23 rfl (lv_at hl 0 rfl) ?_
      obtain ⟨k_7, hk_7⟩ := va_plg hg0.1 e_1
      refine va_get (D := (dC, dI)) (ci := 3) (v := .int lm_1) (C := RX3) (T := TX3) (N := 23) hx hb hts iX3_ hown hK hP k_7 hk_7 rfl 8 (by decide) (hts (.fieldLink RX3 184 "FieldLeavesModel" "leafMany" "I") (by decide +kernel)) (fun _ h9 => h9) rfl dX3_back_24 ?_
      refine lv_iconst (v := 1) hx hb dX3_back_27 (by decide) ?_
      refine lv_isub hx hb dX3_back_28 ?_
      refine lv_topi (fun z_8 ez_8 => ?_)
      have kz_8 := sub_toInt2 ez_8 (by omega) (by omega)
      obtain ⟨k_9, hk_9⟩ := va_plg fs8_1.1 eg18
      have h_9 : vp_in z_8 300 := (vp_in_iff.mpr (by constructor <;> omega))
      refine va_iald hx hb hK hP k_9 0 hk_9 rfl h_9 dX3_back_29 ?_
      refine lv_topi (fun z_9 ez_9 => ?_)
      have fz_9 := fg18 _ (vp_lt h_9)
      rw [← ez_9] at fz_9
      have hdez_9 := congrArg Int32.toInt ez_9
      refine lv_iconst (v := 1) hx hb dX3_back_30 (by decide) ?_
      refine lv_iadd hx hb dX3_back_31 ?_
      refine lv_topi (fun z_10 ez_10 => ?_)
      have kz_10 := add_toInt ez_10 (by omega) (by omega)
      refine lv_istore_n (lv' := [(2, .int z_10), (0, .ref g0), (1, .int p0)]) hx hb dX3_back_32 rfl hl (by decide) rfl (fun ls hl => ?_)
      have hlx := hLL.at (k := z_8) (by omega) (by omega)
      have hci := clamp_int (i := z_8) (by omega)
      have hmany : z_9.toInt + 1 = (nO : Int) := by rw [ez_9]; exact hFIT.2.2 _ (by rw [show ll.length - 1 = Int32.toNatClampNeg z_8 by omega]; exact hlx)
      refine lv_iconst (v := 0) hx hb dX3_back_33 (by decide) ?_
      refine lv_istore_n (lv' := [(3, .int 0), (2, .int z_10), (0, .ref g0), (1, .int p0)]) hx hb dX3_back_34 rfl hl (by decide) rfl (fun ls hl => ?_)
      have loop_35 : ∀ (n : Nat) (i3 : Int32)   (fl : Nat → va_E) (H : Heap) (locs : List Loc) (ls : Array Slot), (0 ≤ i3.toInt ∧ i3.toInt ≤ 24) → (24 - i3.toInt).toNat < n → (f = fl ∧ (∀ j : Nat, (j : Int) < i3.toInt → ¬ badT ll j)) → PR kI kJ kZ K L fl → va_P (dC, dI) vwCl (va_pl L fl) H → va_D A (va_pl L fl) → va_S A s.heap H locs → lv_has ls 8 [(3, .int i3), (2, .int z_10), (0, .ref g0), (1, .int p0)] → W p l e (headSpec wsX3_back ({ frames := 2, cells := 0, slots := 0, locals := 45 } : Room)).room s m (([.ref g0, .int p0] : List Value).toArray) below meth c H locs 0 0 Q0 (F0 m 35 ls []) := by
        intro n
        induction n with
        | zero => intro i3 fl H locs ls  _ h9; exact absurd h9 (Nat.not_lt_zero _)
        | succ n ih_35 =>
          intro i3 fl H locs ls  hI hM hFN hPI hP hD hS hl
          obtain ⟨hff, hFN⟩ := hFN
          subst hff
          have hbd := hFN
          refine lv_iload_n hx hb dX3_back_35 rfl (lv_at hl 0 rfl) ?_
          refine lv_iload_n hx hb dX3_back_36 rfl (lv_at hl 1 rfl) ?_
          refine lv_icmp_ge (tgt := 81) hx hb dX3_back_37 (by decide) (fun c_11 => ?_) (fun c_11 => ?_)
          · have c_11 := Int32.le_iff_toInt_le.mp c_11
            refine lv_aload_n hx hb dX3_back_81 rfl (lv_at hl 2 rfl) ?_
            have hFc := pl_free hD hS hA
            obtain ⟨k_12, hk_12⟩ := va_plg hg0.1 e_1
            refine va_callv (va_runV (b := g0) (As := []) (rest := []) ⟨hx, hb, hml, hown, hts⟩ (g_X3_look l dC dI TT H.size kI kJ kZ K L f hPI g0 hg0 hU fS fC fF hRV.1) (cwV 0 hts gX3_back_X3_lookWhatIsHeld rfl rfl rfl (by decide +kernel) ⟨Nat.le_of_ble_eq_true rfl, Nat.le_of_ble_eq_true rfl⟩) ⟨pr_blind, va_recv hK hP (ci := 3) rfl hk_12, (pr_S (ws := va_pl L f) (wA := va_pl L f) (tys := [(kI, .int), (kJ, .long), (kZ, .boolean)]) hP hK (hD.weaken (fun _ _ _ _ => trivial)) hst hS hFc).2⟩ rfl rfl hl.1 rfl (lv_room (Nat.le_of_ble_eq_true rfl)) dX3_back_82 ⟨Nat.le_of_ble_eq_true rfl, Nat.le_of_ble_eq_true rfl⟩) hS (fun q _ h => hFc q h) hFc (fun u t H1 locs ht hvm hw hB hz1 hk1 hS => ?_)
            obtain ⟨f_14, hPI, hrel, hP, hD9⟩ := hB
            rw [ht] at hP
            have hD := hD9.weaken (fun _ q _ h => hFc q.1 h)
            obtain ⟨hrelF, hrel⟩ := hrel
            have eq_15 := (hrelF g0 hg0.1 (by rw [hg0.2]; rfl)).trans e_1
            have eq_16 := (hrelF s1_1 fs1_1.1 (by rw [fs1_1.2]; rfl)).trans eg11
            have eq_17 := (hrelF s2_1 fs2_1.1 (by rw [fs2_1.2]; rfl)).trans eg12
            have eq_18 := (hrelF s3_1 fs3_1.1 (by rw [fs3_1.2]; rfl)).trans eg13
            have eq_19 := (hrelF s4_1 fs4_1.1 (by rw [fs4_1.2]; rfl)).trans eg14
            have eq_20 := (hrelF s5_1 fs5_1.1 (by rw [fs5_1.2]; rfl)).trans eg15
            have eq_21 := (hrelF s8_1 fs8_1.1 (by rw [fs8_1.2]; rfl)).trans eg18
            have eq_22 := (hrelF s9_1 fs9_1.1 (by rw [fs9_1.2]; rfl)).trans eg19
            have eq_23 := (hrelF s10_1 fs10_1.1 (by rw [fs10_1.2]; rfl)).trans eg20
            have hfr := FR.tr hfr hrelF (sK_sub (by decide))
            generalize H1 = H at hP hS ⊢
            obtain ⟨zM, hZV, hMK⟩ := hrel
            have hcz := look_room hGI hMK hcap
            obtain ⟨A0, bb, E, B, hGA, hEl, hBl⟩ := id hGI
            have eg_24 := hZV s6_1 fs6_1
            have fg_24 := (hPI.a16 fs6_1).of eg_24
            have hgood : ∀ i, i < nO → ¬ badT ll i := fun i hi => hbd i (by omega)
            refine lv_iconst (v := 0) hx hb dX3_back_85 (by decide) ?_
            refine lv_istore_n (lv' := [(3, .int 0), (2, .int z_10), (0, .ref g0), (1, .int p0)]) hx hb dX3_back_86 rfl hl (by decide) rfl (fun ls hl => ?_)
            have hfrE87 := hfr
            obtain ⟨g_25, e_25, fg_25⟩ := hPI.a25 fs15_1
            obtain ⟨k_25, hk_25⟩ := va_plg fs15_1.1 e_25
            have loop_87 : ∀ (n : Nat) (j3 : Int32)   (fl87 : Nat → va_E) (H : Heap) (locs : List Loc) (ls : Array Slot), (0 ≤ j3.toInt ∧ j3.toInt ≤ 24) → (24 - j3.toInt).toNat < n → (FR (sK [11, 12, 13, 14, 15, 16, 17, 25]) K L f_14 fl87 ∧ (∃ (fC1 : Nat → Int32) (fF1 : Nat → Int64) (fR1 z1 gM : Nat → Int32) (ps : Nat → Nat), RV kI kJ K L fl87 g0 fS fC1 fF1 fR1 fW lo ld lv lm_1 pa_1 ∧ ZV kZ K L fl87 z1 ∧ MV kI K L fl87 gM ∧ BB (fun o => o < 6400 ∧ zM o ≠ 0) bb E B fS fC1 fF1 z1 gM j3.toInt ∧ RB fC fF fR fW fC1 fF1 fR1 fW (Int32.toNatClampNeg j3) ps (csT ll) (fun i => ks_vals (csT ll i) (tnT ll i)) (fun _ _ => none) (fun _ => -1) (fun i t => fW (20 * ps i + t)) ∧ ((∀ o, zM o ≠ 0 → z1 o ≠ 0) ∧ ∀ i, i < Int32.toNatClampNeg j3 → z1 (ps i) ≠ 0 ∧ zM (ps i) = 0 ∧ Int32.toNatClampNeg (gM i) = ps i) ∧ j3.toInt ≤ z_10.toInt)) → PR kI kJ kZ K L fl87 → va_P (dC, dI) vwCl (va_pl L fl87) H → va_D A (va_pl L fl87) → va_S A s.heap H locs → lv_has ls 8 [(3, .int j3), (2, .int z_10), (0, .ref g0), (1, .int p0)] → W p l e (headSpec wsX3_back ({ frames := 2, cells := 0, slots := 0, locals := 45 } : Room)).room s m (([.ref g0, .int p0] : List Value).toArray) below meth c H locs 0 0 Q0 (F0 m 87 ls []) := by
              intro n
              induction n with
              | zero => intro j3 fl87 H locs ls  _ h9; exact absurd h9 (Nat.not_lt_zero _)
              | succ n ih_87 =>
                intro j3 fl87 H locs ls  hI hM hFN hPI hP hD hS hl
                obtain ⟨hfr, hFN⟩ := hFN
                have eq_26 := (hfr g0 hg0.1 (by rw [hg0.2]; rfl)).trans eq_15
                have eq_27 := (hfr s8_1 fs8_1.1 (by rw [fs8_1.2]; rfl)).trans eq_21
                have eq_28 := (hfr s9_1 fs9_1.1 (by rw [fs9_1.2]; rfl)).trans eq_22
                have eq_29 := (hfr s10_1 fs10_1.1 (by rw [fs10_1.2]; rfl)).trans eq_23
                obtain ⟨fC1, fF1, fR1, z1, gM, ps, hRVc, hZV, hMV, hBB, hRB, hmk, hjm⟩ := hFN
                have eg_30 := hRVc.1.1 s1_1 fs1_1
                have fg_30 := (hPI.a11 fs1_1).of eg_30
                have eg_31 := hRVc.1.2.1 s2_1 fs2_1
                have fg_31 := (hPI.a12 fs2_1).of eg_31
                have eg_32 := hRVc.1.2.2 s3_1 fs3_1
                have fg_32 := (hPI.a13 fs3_1).of eg_32
                have eg_33 := hRVc.2.1.1 s4_1 fs4_1
                have fg_33 := (hPI.a14 fs4_1).of eg_33
                have eg_34 := hRVc.2.1.2 s5_1 fs5_1
                have fg_34 := (hPI.a15 fs5_1).of eg_34
                have eg_35 := hZV s6_1 fs6_1
                have fg_35 := (hPI.a16 fs6_1).of eg_35
                have eg_36 := hMV s15_1 fs15_1
                have fg_36 := (hPI.a25 fs15_1).of eg_36
                refine lv_iload_n hx hb dX3_back_87 rfl (lv_at hl 0 rfl) ?_
                refine lv_iload_n hx hb dX3_back_88 rfl (lv_at hl 1 rfl) ?_
                refine lv_icmp_ge (tgt := 138) hx hb dX3_back_89 (by decide) (fun c_37 => ?_) (fun c_37 => ?_)
                · have c_37 := Int32.le_iff_toInt_le.mp c_37
                  have hjn : Int32.toNatClampNeg j3 = nO := by have h7 := clamp_int (i := j3) (by omega); omega
                  refine lv_iconst (v := 0) hx hb dX3_back_138 (by decide) ?_
                  refine lv_istore_n (lv' := [(3, .int 0), (2, .int z_10), (0, .ref g0), (1, .int p0)]) hx hb dX3_back_139 rfl hl (by decide) rfl (fun ls hl => ?_)
                  have hfrE140 := hfr
                  have loop_140 : ∀ (n : Nat) (m3 : Int32)   (fl140 : Nat → va_E) (H : Heap) (locs : List Loc) (ls : Array Slot), (0 ≤ m3.toInt ∧ m3.toInt ≤ 300) → (300 - m3.toInt).toNat < n → (FR (sK [11, 12, 13, 14, 15, 16, 17, 25]) K L fl87 fl140 ∧ (∃ (fC1 : Nat → Int32) (fF1 : Nat → Int64) (fR1 fW1 z1 gM : Nat → Int32) (ps : Nat → Nat), RV kI kJ K L fl140 g0 fS fC1 fF1 fR1 fW1 lo ld lv lm_1 pa_1 ∧ MV kI K L fl140 gM ∧ BB (fun o => o < 6400 ∧ zM o ≠ 0) bb E B fS fC1 fF1 z1 gM z_10.toInt ∧ RB fC fF fR fW fC1 fF1 fR1 fW1 nO ps (csT ll) ((ll.take (Int32.toNatClampNeg m3)).foldl (fun s x => rstV x s) (fun i => ks_vals (csT ll i) (tnT ll i))) ((ll.take (Int32.toNatClampNeg m3)).foldl (fun s x => stN x s) (fun _ _ => none)) ((ll.take (Int32.toNatClampNeg m3)).foldl (fun s x => rstZ x s) (fun _ => -1)) ((ll.take (Int32.toNatClampNeg m3)).foldl (fun s x => rstW x s) (fun i t => fW (20 * ps i + t))) ∧ (∀ i, i < nO → zM (ps i) = 0 ∧ Int32.toNatClampNeg (gM i) = ps i) ∧ rfcl nO (csT ll) (ll.drop (Int32.toNatClampNeg m3)) = rfcl nO (csT ll) ll)) → PR kI kJ kZ K L fl140 → va_P (dC, dI) vwCl (va_pl L fl140) H → va_D A (va_pl L fl140) → va_S A s.heap H locs → lv_has ls 8 [(3, .int m3), (2, .int z_10), (0, .ref g0), (1, .int p0)] → W p l e (headSpec wsX3_back ({ frames := 2, cells := 0, slots := 0, locals := 45 } : Room)).room s m (([.ref g0, .int p0] : List Value).toArray) below meth c H locs 0 0 Q0 (F0 m 140 ls []) := by
                    intro n
                    induction n with
                    | zero => intro m3 fl140 H locs ls  _ h9; exact absurd h9 (Nat.not_lt_zero _)
                    | succ n ih_140 =>
                      intro m3 fl140 H locs ls  hI hM hFN hPI hP hD hS hl
                      obtain ⟨hfr, hFN⟩ := hFN
                      have eq_38 := (hfr g0 hg0.1 (by rw [hg0.2]; rfl)).trans eq_26
                      have eq_39 := (hfr s8_1 fs8_1.1 (by rw [fs8_1.2]; rfl)).trans eq_27
                      have eq_40 := (hfr s9_1 fs9_1.1 (by rw [fs9_1.2]; rfl)).trans eq_28
                      have eq_41 := (hfr s10_1 fs10_1.1 (by rw [fs10_1.2]; rfl)).trans eq_29
                      obtain ⟨fC1, fF1, fR1, fW1, z1, gM, ps, hRVc, hMV, hBB, hRB, hmk, hrfl⟩ := hFN
                      have eg_42 := hRVc.1.1 s1_1 fs1_1
                      have fg_42 := (hPI.a11 fs1_1).of eg_42
                      have eg_43 := hRVc.1.2.1 s2_1 fs2_1
                      have fg_43 := (hPI.a12 fs2_1).of eg_43
                      have eg_44 := hRVc.1.2.2 s3_1 fs3_1
                      have fg_44 := (hPI.a13 fs3_1).of eg_44
                      have eg_45 := hRVc.2.1.1 s4_1 fs4_1
                      have fg_45 := (hPI.a14 fs4_1).of eg_45
                      have eg_46 := hRVc.2.1.2 s5_1 fs5_1
                      have fg_46 := (hPI.a15 fs5_1).of eg_46
                      have eg_47 := hMV s15_1 fs15_1
                      have fg_47 := (hPI.a25 fs15_1).of eg_47
                      refine lv_iload_n hx hb dX3_back_140 rfl (lv_at hl 0 rfl) ?_
                      refine lv_aload_n hx hb dX3_back_141 rfl (lv_at hl 2 rfl) ?_
                      obtain ⟨k_48, hk_48⟩ := va_plg hg0.1 eq_38
                      refine va_get (D := (dC, dI)) (ci := 3) (v := .int lm_1) (C := RX3) (T := TX3) (N := 23) hx hb hts iX3_ hown hK hP k_48 hk_48 rfl 8 (by decide) (hts (.fieldLink RX3 184 "FieldLeavesModel" "leafMany" "I") (by decide +kernel)) (fun _ h9 => h9) rfl dX3_back_142 ?_
                      refine lv_icmp_ge (tgt := 335) hx hb dX3_back_145 (by decide) (fun c_49 => ?_) (fun c_49 => ?_)
                      · have c_49 := Int32.le_iff_toInt_le.mp c_49
                        have hrf0 : rfcl nO (csT ll) ll = 0 := hrfl.symm.trans (rfcl_end hLL (by omega) (by omega))
                        refine lv_aload_n hx hb dX3_back_335 rfl (lv_at hl 2 rfl) ?_
                        obtain ⟨k_50, hk_50⟩ := va_plg hg0.1 eq_38
                        refine va_get (D := (dC, dI)) (ci := 3) (v := .ref s1_1) (C := RX3) (T := TX3) (N := 23) hx hb hts iX3_ hown hK hP k_50 hk_50 rfl 0 (by decide) (hts (.fieldLink RX3 7 "FieldLeavesModel" "slot" "[I") (by decide +kernel)) (fun _ h9 => h9) rfl dX3_back_336 ?_
                        refine lv_iload_n hx hb dX3_back_339 rfl (lv_at hl 3 rfl) ?_
                        refine lv_aload_n hx hb dX3_back_340 rfl (lv_at hl 2 rfl) ?_
                        obtain ⟨k_51, hk_51⟩ := va_plg hg0.1 eq_38
                        refine va_get (D := (dC, dI)) (ci := 3) (v := .ref s15_1) (C := RX3) (T := TX3) (N := 23) hx hb hts iX3_ hown hK hP k_51 hk_51 rfl 19 (by decide) (hts (.fieldLink RX3 56 "FieldLeavesModel" "made" "[I") (by decide +kernel)) (fun _ h9 => h9) rfl dX3_back_341 ?_
                        refine lv_iconst (v := 0) hx hb dX3_back_344 (by decide) ?_
                        obtain ⟨k_52, hk_52⟩ := va_plg fs15_1.1 eg_47
                        have h_52 : vp_in 0 24 := (vp_in_iff.mpr (by decide))
                        refine va_iald hx hb hK hP k_52 0 hk_52 rfl h_52 dX3_back_345 ?_
                        refine lv_topi (fun z_52 ez_52 => ?_)
                        have fz_52 := fg_47 _ (vp_lt h_52)
                        rw [← ez_52] at fz_52
                        have hdez_52 := congrArg Int32.toInt ez_52
                        obtain ⟨k_53, hk_53⟩ := va_plg fs1_1.1 eg_42
                        have h_53 : vp_in p0 12 := (vp_in_iff.mpr (by constructor <;> omega))
                        have fw_53 := updS (P := fun v => -1 ≤ v.toInt ∧ v.toInt < 6400) (k := Int32.toNatClampNeg p0) (v := z_52) fg_42 (by omega)
                        have hD9 := hD
                        refine va_iast hx hb hK hP hD hS k_53 0 hk_53 rfl h_53 dX3_back_346 (fun H locs hP hD hS => ?_)
                        have hP : va_P (dC, dI) vwCl (va_pl L (va_up fl140 s1_1 (.inl (kI, 12, .inl (upd fS (Int32.toNatClampNeg p0) z_52))))) H := by rw [← va_pls hD9 fs1_1.1 hk_53 _]; exact hP
                        have hD : va_D A (va_pl L (va_up fl140 s1_1 (.inl (kI, 12, .inl (upd fS (Int32.toNatClampNeg p0) z_52))))) := by rw [← va_pls hD9 fs1_1.1 hk_53 _]; exact hD
                        have hPI := hPI.put (e := .inl (kI, 12, .inl (upd fS (Int32.toNatClampNeg p0) z_52))) fs1_1 ⟨_, rfl, fw_53⟩
                        have es_f_54 : va_up fl140 s1_1 (.inl (kI, 12, .inl (upd fS (Int32.toNatClampNeg p0) z_52))) s1_1 = .inl (kI, 12, .inl (upd fS (Int32.toNatClampNeg p0) z_52)) := va_up_self _ _ _
                        have eq_55 := (va_up_ne fl140 (.inl (kI, 12, .inl (upd fS (Int32.toNatClampNeg p0) z_52))) (isr_ne hg0 fs1_1 (by decide))).trans eq_38
                        have eq_56 := (va_up_ne fl140 (.inl (kI, 12, .inl (upd fS (Int32.toNatClampNeg p0) z_52))) (isr_ne fs8_1 fs1_1 (by decide))).trans eq_39
                        have eq_57 := (va_up_ne fl140 (.inl (kI, 12, .inl (upd fS (Int32.toNatClampNeg p0) z_52))) (isr_ne fs9_1 fs1_1 (by decide))).trans eq_40
                        have eq_58 := (va_up_ne fl140 (.inl (kI, 12, .inl (upd fS (Int32.toNatClampNeg p0) z_52))) (isr_ne fs10_1 fs1_1 (by decide))).trans eq_41
                        have eq_59 := (va_up_ne fl140 (.inl (kI, 12, .inl (upd fS (Int32.toNatClampNeg p0) z_52))) (isr_ne fs2_1 fs1_1 (by decide))).trans eg_43
                        have eq_60 := (va_up_ne fl140 (.inl (kI, 12, .inl (upd fS (Int32.toNatClampNeg p0) z_52))) (isr_ne fs3_1 fs1_1 (by decide))).trans eg_44
                        have eq_61 := (va_up_ne fl140 (.inl (kI, 12, .inl (upd fS (Int32.toNatClampNeg p0) z_52))) (isr_ne fs4_1 fs1_1 (by decide))).trans eg_45
                        have eq_62 := (va_up_ne fl140 (.inl (kI, 12, .inl (upd fS (Int32.toNatClampNeg p0) z_52))) (isr_ne fs5_1 fs1_1 (by decide))).trans eg_46
                        have eq_63 := (va_up_ne fl140 (.inl (kI, 12, .inl (upd fS (Int32.toNatClampNeg p0) z_52))) (isr_ne fs15_1 fs1_1 (by decide))).trans eg_47
                        have hfr := fr_up (S := (sK [11, 12, 13, 14, 15, 16, 17, 25])) (e := .inl (kI, 12, .inl (upd fS (Int32.toNatClampNeg p0) z_52))) hfr fs1_1 (by decide)
                        generalize hg_f_54 : va_up fl140 s1_1 (.inl (kI, 12, .inl (upd fS (Int32.toNatClampNeg p0) z_52))) = f_54 at hP hD hPI es_f_54 eq_55 eq_56 eq_57 eq_58 eq_59 eq_60 eq_61 eq_62 eq_63 hfr
                        refine lv_iload_n hx hb dX3_back_347 rfl (lv_at hl 1 rfl) ?_
                        subst eQ
                        exact W.iret (v := z_10) hx hb hr (fun t ht hW => ⟨⟨z_10, (), rfl, (show rs_back ll nO p0 z_10 from ⟨fun h9 => absurd (by omega) h9, fun _ h9 => absurd h9 hne, fun _ _ h9 => absurd h9.choose_spec.2 (hgood _ h9.choose_spec.1), fun _ _ _ h9 => absurd hrf0 h9, fun _ _ _ _ => by omega⟩), f_54, hPI, ⟨(FR.tr hfrE87 (FR.tr hfrE140 hfr (fun _ h => h)) (fun _ h => h)), _, _, _, _, _, Or.inr ⟨⟨by omega, hne, hgood⟩, zM, ps, hMK, (fun i hi => (hmk i hi).1), Or.inr ⟨hrf0, ⟨z_52, rfl, by omega, (by rw [ez_52, cl_0]; exact (hmk 0 (by omega)).2)⟩, bb_slot hBB hEl hBl (by omega) ez_52, (by have h8 := hRB; rw [take_all hLL (by omega) (by omega)] at h8; exact h8)⟩⟩, ⟨SV.mk hU fs1_1 fs2_1 fs3_1 es_f_54 eq_59 eq_60, ⟨un_row hU fs4_1 eq_61, un_row hU fs5_1 eq_62⟩, ⟨un_row hU fs8_1 eq_56, un_row hU fs9_1 eq_57, un_row hU fs10_1 eq_58⟩, (by rw [eq_55]; rfl), (by rw [eq_55]; rfl)⟩⟩, by rw [ht]; exact hP, hD⟩, hS.F ht⟩) hS.2.2 dX3_back_348
                      · have c_49 := mt Int32.le_iff_toInt_le.mpr c_49
                        refine lv_aload_n hx hb dX3_back_148 rfl (lv_at hl 2 rfl) ?_
                        obtain ⟨k_64, hk_64⟩ := va_plg hg0.1 eq_38
                        refine va_get (D := (dC, dI)) (ci := 3) (v := .ref s15_1) (C := RX3) (T := TX3) (N := 23) hx hb hts iX3_ hown hK hP k_64 hk_64 rfl 19 (by decide) (hts (.fieldLink RX3 56 "FieldLeavesModel" "made" "[I") (by decide +kernel)) (fun _ h9 => h9) rfl dX3_back_149 ?_
                        refine lv_aload_n hx hb dX3_back_152 rfl (lv_at hl 2 rfl) ?_
                        obtain ⟨k_65, hk_65⟩ := va_plg hg0.1 eq_38
                        refine va_get (D := (dC, dI)) (ci := 3) (v := .ref s8_1) (C := RX3) (T := TX3) (N := 23) hx hb hts iX3_ hown hK hP k_65 hk_65 rfl 9 (by decide) (hts (.fieldLink RX3 35 "FieldLeavesModel" "leafObject" "[I") (by decide +kernel)) (fun _ h9 => h9) rfl dX3_back_153 ?_
                        refine lv_iload_n hx hb dX3_back_156 rfl (lv_at hl 0 rfl) ?_
                        obtain ⟨k_66, hk_66⟩ := va_plg fs8_1.1 eq_39
                        have h_66 : vp_in m3 300 := (vp_in_iff.mpr (by constructor <;> omega))
                        refine va_iald hx hb hK hP k_66 0 hk_66 rfl h_66 dX3_back_157 ?_
                        refine lv_topi (fun z_66 ez_66 => ?_)
                        have fz_66 := fg18 _ (vp_lt h_66)
                        rw [← ez_66] at fz_66
                        have hdez_66 := congrArg Int32.toInt ez_66
                        have hxm := hFIT.2.1 _ _ (hLL.at (k := m3) (by omega) (by omega))
                        have hlo : 0 ≤ z_66.toInt ∧ z_66.toInt < (nO : Int) := by rw [ez_66]; exact hxm.1
                        obtain ⟨k_67, hk_67⟩ := va_plg fs15_1.1 eg_47
                        have h_67 : vp_in z_66 24 := (vp_in_iff.mpr (by constructor <;> omega))
                        refine va_iald hx hb hK hP k_67 0 hk_67 rfl h_67 dX3_back_158 ?_
                        refine lv_topi (fun z_67 ez_67 => ?_)
                        have fz_67 := fg_47 _ (vp_lt h_67)
                        rw [← ez_67] at fz_67
                        have hdez_67 := congrArg Int32.toInt ez_67
                        refine lv_istore (lv' := [(4, .int z_67), (3, .int m3), (2, .int z_10), (0, .ref g0), (1, .int p0)]) hx hb dX3_back_159 hl (by decide) rfl (fun ls hl => ?_)
                        have hpo : Int32.toNatClampNeg z_67 = ps (Int32.toNatClampNeg z_66) := by rw [ez_67]; exact (hmk _ (by have h7 := clamp_int (i := z_66) (by omega); omega)).2
                        refine lv_aload_n hx hb dX3_back_161 rfl (lv_at hl 3 rfl) ?_
                        obtain ⟨k_68, hk_68⟩ := va_plg hg0.1 eq_38
                        refine va_get (D := (dC, dI)) (ci := 3) (v := .ref s9_1) (C := RX3) (T := TX3) (N := 23) hx hb hts iX3_ hown hK hP k_68 hk_68 rfl 10 (by decide) (hts (.fieldLink RX3 38 "FieldLeavesModel" "leafField" "[I") (by decide +kernel)) (fun _ h9 => h9) rfl dX3_back_162 ?_
                        refine lv_iload_n hx hb dX3_back_165 rfl (lv_at hl 1 rfl) ?_
                        obtain ⟨k_69, hk_69⟩ := va_plg fs9_1.1 eq_40
                        have h_69 : vp_in m3 300 := (vp_in_iff.mpr (by constructor <;> omega))
                        refine va_iald hx hb hK hP k_69 0 hk_69 rfl h_69 dX3_back_166 ?_
                        refine lv_topi (fun z_69 ez_69 => ?_)
                        have fz_69 := fg19 _ (vp_lt h_69)
                        rw [← ez_69] at fz_69
                        have hdez_69 := congrArg Int32.toInt ez_69
                        refine lv_istore (lv' := [(5, .int z_69), (4, .int z_67), (3, .int m3), (2, .int z_10), (0, .ref g0), (1, .int p0)]) hx hb dX3_back_167 hl (by decide) rfl (fun ls hl => ?_)
                        refine lv_aload_n hx hb dX3_back_169 rfl (lv_at hl 4 rfl) ?_
                        obtain ⟨k_70, hk_70⟩ := va_plg hg0.1 eq_38
                        refine va_get (D := (dC, dI)) (ci := 3) (v := .ref s10_1) (C := RX3) (T := TX3) (N := 23) hx hb hts iX3_ hown hK hP k_70 hk_70 rfl 11 (by decide) (hts (.fieldLink RX3 41 "FieldLeavesModel" "leafValue" "[J") (by decide +kernel)) (fun _ h9 => h9) rfl dX3_back_170 ?_
                        refine lv_iload_n hx hb dX3_back_173 rfl (lv_at hl 2 rfl) ?_
                        obtain ⟨k_71, hk_71⟩ := va_plg fs10_1.1 eq_41
                        have h_71 : vp_in m3 300 := (vp_in_iff.mpr (by constructor <;> omega))
                        refine va_lald hx hb hK hP k_71 1 hk_71 rfl h_71 dX3_back_174 ?_
                        refine lv_topl (fun z_71 ez_71 => ?_)
                        refine lv_lstore (lv' := [(6, .long z_71), (5, .int z_69), (4, .int z_67), (3, .int m3), (2, .int z_10), (0, .ref g0), (1, .int p0)]) hx hb dX3_back_175 hl (by decide) rfl (fun ls hl => ?_)
                        refine lv_iload hx hb dX3_back_177 (lv_at hl 1 rfl) ?_
                        refine lv_bipush (v := 100) hx hb dX3_back_179 (by decide) ?_
                        refine lv_icmp_lt (tgt := 206) hx hb dX3_back_181 (by decide) (fun c_72 => ?_) (fun c_72 => ?_)
                        · have c_72 := Int32.lt_iff_toInt_lt.mp c_72
                          refine lv_iload hx hb dX3_back_206 (lv_at hl 1 rfl) ?_
                          refine lv_bipush (v := 9) hx hb dX3_back_208 (by decide) ?_
                          refine lv_icmp_ne (tgt := 226) hx hb dX3_back_210 (by decide) (fun c_73 => ?_) (fun c_73 => ?_)
                          · have c_73 := mt Int32.toInt_inj.mp c_73
                            refine lv_iload hx hb dX3_back_226 (lv_at hl 1 rfl) ?_
                            refine lv_if_lt (tgt := 304) hx hb dX3_back_228 (by decide) (fun c_74 => ?_) (fun c_74 => ?_)
                            · have c_74 := Int32.lt_iff_toInt_lt.mp c_74
                              refine lv_iload hx hb dX3_back_304 (lv_at hl 1 rfl) ?_
                              refine lv_if_lt (tgt := 329) hx hb dX3_back_306 (by decide) (fun c_75 => ?_) (fun c_75 => ?_)
                              · have c_75 := Int32.lt_iff_toInt_lt.mp c_75
                                obtain ⟨i_76, ei_76⟩ : ∃ y : Int32, y = m3 + 1 := ⟨_, rfl⟩
                                refine lv_iinc (v := i_76) (lv' := [(3, .int i_76), (6, .long z_71), (5, .int z_69), (4, .int z_67), (2, .int z_10), (0, .ref g0), (1, .int p0)]) hx hb dX3_back_329 hl (k := 3) rfl (by rw [ei_76]; rfl) (by decide) rfl (fun ls hl => ?_)
                                have ki_76 := inc_toInt ei_76 (by omega)
                                refine lv_goto (tgt := 140) hx hb dX3_back_332 (by decide) ?_
                                exact ih_140 i_76 fl140 _ _ _  (by omega) (by omega) ⟨hfr, ⟨_, _, _, _, _, _, ps, ⟨SV.mk hU fs1_1 fs2_1 fs3_1 eg_42 eg_43 eg_44, ⟨un_row hU fs4_1 eg_45, un_row hU fs5_1 eg_46⟩, ⟨un_row hU fs8_1 eq_39, un_row hU fs9_1 eq_40, un_row hU fs10_1 eq_41⟩, (by rw [eq_38]; rfl), (by rw [eq_38]; rfl)⟩, MV.mk hU fs15_1 eg_47, hBB, (by rw [foldl_at rstV _ hLL (by omega) (by omega) ki_76, foldl_at stN _ hLL (by omega) (by omega) ki_76, foldl_at rstZ _ hLL (by omega) (by omega) ki_76, foldl_at rstW _ hLL (by omega) (by omega) ki_76, ← ez_66, ← ez_69, ← ez_71]; rw [rstV_no (by omega), stN_no (by omega), rstZ_no (by omega), rstW_no (by omega)]; exact hRB), hmk, (rfcl_next hLL (by omega) (by omega) (by rw [← ez_66, ← ez_69, ← ez_71]; exact rfd_no (by omega)) ki_76).symm.trans hrfl⟩⟩ hPI hP hD hS (lv_sub hl [0, 4, 5, 6] rfl)
                              · have c_75 := mt Int32.lt_iff_toInt_lt.mpr c_75
                                refine lv_aload_n hx hb dX3_back_309 rfl (lv_at hl 5 rfl) ?_
                                obtain ⟨k_77, hk_77⟩ := va_plg hg0.1 eq_38
                                refine va_get (D := (dC, dI)) (ci := 3) (v := .ref s3_1) (C := RX3) (T := TX3) (N := 23) hx hb hts iX3_ hown hK hP k_77 hk_77 rfl 2 (by decide) (hts (.fieldLink RX3 17 "FieldLeavesModel" "field" "[J") (by decide +kernel)) (fun _ h9 => h9) rfl dX3_back_310 ?_
                                refine lv_bipush (v := 17) hx hb dX3_back_313 (by decide) ?_
                                refine lv_iload hx hb dX3_back_315 (lv_at hl 2 rfl) ?_
                                refine lv_imul hx hb dX3_back_317 ?_
                                refine lv_topi (fun z_78 ez_78 => ?_)
                                have kz_78 := mul17 ez_78 (by omega) (by omega)
                                refine lv_iload hx hb dX3_back_318 (lv_at hl 1 rfl) ?_
                                refine lv_iadd hx hb dX3_back_320 ?_
                                refine lv_topi (fun z_79 ez_79 => ?_)
                                have kz_79 := add_toInt ez_79 (by omega) (by omega)
                                refine lv_iload hx hb dX3_back_321 (lv_at hl 1 rfl) ?_
                                refine lv_lload hx hb dX3_back_323 (lv_at hl 0 rfl) ?_
                                refine va_calll (va_runS (As := [.int z_69, .long z_71]) (rest := [.int z_79, .ref s3_1]) ⟨hx, hb, hml, hown, hts⟩ (v_X3_valueOf l dC dI TT H.size kI kJ kZ K L fl140 hPI z_69 z_71) (va_cwS 2 hts gX3_back_X3_valueOf rfl rfl rfl (by decide +kernel) ⟨Nat.le_of_ble_eq_true rfl, Nat.le_of_ble_eq_true rfl⟩) (pr_S (ws := va_pl L fl140) (wA := []) (tys := [(kI, .int), (kJ, .long), (kZ, .boolean)]) hP hK vd_nil hst hS (ro_free hS hA)) rfl rfl hl.1 rfl (lv_room (Nat.le_of_ble_eq_true rfl)) dX3_back_325 ⟨Nat.le_of_ble_eq_true rfl, Nat.le_of_ble_eq_true rfl⟩) hS (fun q _ h => (ro_free hS hA) q h) (ro_free hS hA) (fun r_80 u t H1 locs ht hvm hw hB hz1 hk1 hS => ?_)
                                have hP := ro_keep hP hk1
                                generalize H1 = H at hP hS ⊢
                                have hq_81 := hw
                                obtain ⟨k_82, hk_82⟩ := va_plg fs3_1.1 eg_44
                                have hq_i_83 := idx_clamp (o := z_67) (f := z_69) (w := z_79) (by omega) (by omega) (by omega)
                                have h_82 : vp_in z_79 108800 := (vp_in_iff.mpr (by constructor <;> omega))
                                have fw_82 := rgF.plain fg_44 (o := z_67) (f := z_69) (w := z_79) (v := r_80) (by constructor <;> omega) (by omega) (by omega)
                                have hD9 := hD
                                refine va_last hx hb hK hP hD hS k_82 1 hk_82 rfl h_82 dX3_back_328 (fun H locs hP hD hS => ?_)
                                have hP : va_P (dC, dI) vwCl (va_pl L (va_up fl140 s3_1 (.inl (kJ, 108800, .inr (.inl (vp_updL fF1 (Int32.toNatClampNeg z_79) r_80)))))) H := by rw [← va_pls hD9 fs3_1.1 hk_82 _]; exact hP
                                have hD : va_D A (va_pl L (va_up fl140 s3_1 (.inl (kJ, 108800, .inr (.inl (vp_updL fF1 (Int32.toNatClampNeg z_79) r_80)))))) := by rw [← va_pls hD9 fs3_1.1 hk_82 _]; exact hD
                                have hPI := hPI.put (e := .inl (kJ, 108800, .inr (.inl (vp_updL fF1 (Int32.toNatClampNeg z_79) r_80)))) fs3_1 ⟨_, rfl, fw_82⟩
                                have es_f_84 : va_up fl140 s3_1 (.inl (kJ, 108800, .inr (.inl (vp_updL fF1 (Int32.toNatClampNeg z_79) r_80)))) s3_1 = .inl (kJ, 108800, .inr (.inl (vp_updL fF1 (Int32.toNatClampNeg z_79) r_80))) := va_up_self _ _ _
                                have eq_85 := (va_up_ne fl140 (.inl (kJ, 108800, .inr (.inl (vp_updL fF1 (Int32.toNatClampNeg z_79) r_80)))) (isr_ne hg0 fs3_1 (by decide))).trans eq_38
                                have eq_86 := (va_up_ne fl140 (.inl (kJ, 108800, .inr (.inl (vp_updL fF1 (Int32.toNatClampNeg z_79) r_80)))) (isr_ne fs8_1 fs3_1 (by decide))).trans eq_39
                                have eq_87 := (va_up_ne fl140 (.inl (kJ, 108800, .inr (.inl (vp_updL fF1 (Int32.toNatClampNeg z_79) r_80)))) (isr_ne fs9_1 fs3_1 (by decide))).trans eq_40
                                have eq_88 := (va_up_ne fl140 (.inl (kJ, 108800, .inr (.inl (vp_updL fF1 (Int32.toNatClampNeg z_79) r_80)))) (isr_ne fs10_1 fs3_1 (by decide))).trans eq_41
                                have eq_89 := (va_up_ne fl140 (.inl (kJ, 108800, .inr (.inl (vp_updL fF1 (Int32.toNatClampNeg z_79) r_80)))) (isr_ne fs1_1 fs3_1 (by decide))).trans eg_42
                                have eq_90 := (va_up_ne fl140 (.inl (kJ, 108800, .inr (.inl (vp_updL fF1 (Int32.toNatClampNeg z_79) r_80)))) (isr_ne fs2_1 fs3_1 (by decide))).trans eg_43
                                have eq_91 := (va_up_ne fl140 (.inl (kJ, 108800, .inr (.inl (vp_updL fF1 (Int32.toNatClampNeg z_79) r_80)))) (isr_ne fs4_1 fs3_1 (by decide))).trans eg_45
                                have eq_92 := (va_up_ne fl140 (.inl (kJ, 108800, .inr (.inl (vp_updL fF1 (Int32.toNatClampNeg z_79) r_80)))) (isr_ne fs5_1 fs3_1 (by decide))).trans eg_46
                                have eq_93 := (va_up_ne fl140 (.inl (kJ, 108800, .inr (.inl (vp_updL fF1 (Int32.toNatClampNeg z_79) r_80)))) (isr_ne fs15_1 fs3_1 (by decide))).trans eg_47
                                have hfr := fr_up (S := (sK [11, 12, 13, 14, 15, 16, 17, 25])) (e := .inl (kJ, 108800, .inr (.inl (vp_updL fF1 (Int32.toNatClampNeg z_79) r_80)))) hfr fs3_1 (by decide)
                                generalize hg_f_84 : va_up fl140 s3_1 (.inl (kJ, 108800, .inr (.inl (vp_updL fF1 (Int32.toNatClampNeg z_79) r_80)))) = f_84 at hP hD hPI es_f_84 eq_85 eq_86 eq_87 eq_88 eq_89 eq_90 eq_91 eq_92 eq_93 hfr
                                obtain ⟨i_94, ei_94⟩ : ∃ y : Int32, y = m3 + 1 := ⟨_, rfl⟩
                                refine lv_iinc (v := i_94) (lv' := [(3, .int i_94), (6, .long z_71), (5, .int z_69), (4, .int z_67), (2, .int z_10), (0, .ref g0), (1, .int p0)]) hx hb dX3_back_329 hl (k := 3) rfl (by rw [ei_94]; rfl) (by decide) rfl (fun ls hl => ?_)
                                have ki_94 := inc_toInt ei_94 (by omega)
                                refine lv_goto (tgt := 140) hx hb dX3_back_332 (by decide) ?_
                                exact ih_140 i_94 f_84 _ _ _  (by omega) (by omega) ⟨hfr, ⟨_, _, _, _, _, _, ps, ⟨SV.mk hU fs1_1 fs2_1 fs3_1 eq_89 eq_90 es_f_84, ⟨un_row hU fs4_1 eq_91, un_row hU fs5_1 eq_92⟩, ⟨un_row hU fs8_1 eq_86, un_row hU fs9_1 eq_87, un_row hU fs10_1 eq_88⟩, (by rw [eq_85]; rfl), (by rw [eq_85]; rfl)⟩, MV.mk hU fs15_1 eq_93, bb_plain hBB (plain_ne (o := z_67) (f := z_69) (by omega) (by omega) (by omega)), (by rw [foldl_at rstV _ hLL (by omega) (by omega) ki_94, foldl_at stN _ hLL (by omega) (by omega) ki_94, foldl_at rstZ _ hLL (by omega) (by omega) ki_94, foldl_at rstW _ hLL (by omega) (by omega) ki_94, ← ez_66, ← ez_69, ← ez_71]; rw [rstV_in (by omega), ← hq_81, stN_no (by omega), rstZ_no (by omega), rstW_no (by omega)]; rw [hq_i_83, hpo]; exact rb_val hRB (show Int32.toNatClampNeg z_66 < nO by have h7 := clamp_int (i := z_66) (by omega); omega) (by have h7 := clamp_int (i := z_69) (by omega); omega) (by unfold lkf; have h7 := clamp_int (i := z_69) (by omega); omega)), hmk, (rfcl_next hLL (by omega) (by omega) (by rw [← ez_66, ← ez_69, ← ez_71]; exact rfd_no (by omega)) ki_94).symm.trans hrfl⟩⟩ hPI hP hD hS (lv_sub hl [0, 4, 5, 6] rfl)
                            · have c_74 := mt Int32.lt_iff_toInt_lt.mpr c_74
                              refine lv_iload hx hb dX3_back_231 (lv_at hl 1 rfl) ?_
                              refine va_calli (va_runS (As := [.int z_69]) (rest := []) ⟨hx, hb, hml, hown, hts⟩ (c_X3_isLink l dC dI TT H.size z_69) (va_cwS 1 hts gX3_back_X3_isLink rfl rfl rfl (by decide +kernel) ⟨Nat.le_of_ble_eq_true rfl, Nat.le_of_ble_eq_true rfl⟩) (pr_S (ws := []) (wA := []) (tys := []) vp_nil (hK.sub [] rfl) vd_nil hst hS (ro_free hS hA)) rfl rfl hl.1 rfl (lv_room (Nat.le_of_ble_eq_true rfl)) dX3_back_233 ⟨Nat.le_of_ble_eq_true rfl, Nat.le_of_ble_eq_true rfl⟩) hS (fun q _ h => (ro_free hS hA) q h) (ro_free hS hA) (fun r_95 u t H1 locs ht hvm hw hB hz1 hk1 hS => ?_)
                              have hP := ro_keep hP hk1
                              generalize H1 = H at hP hS ⊢
                              rcases hw with ⟨rfl, hp_96⟩ | ⟨rfl, hp_96⟩
                              · refine lv_if_eq (tgt := 304) hx hb dX3_back_236 (by decide) (fun c9 => absurd c9 (by decide)) (fun _ => ?_)
                                refine lv_lload hx hb dX3_back_239 (lv_at hl 0 rfl) ?_
                                refine lv_lconst (v := 0) hx hb dX3_back_241 (by decide) ?_
                                refine lv_iload_n hx hb dX3_back_242 rfl (lv_at hl 4 rfl) ?_
                                refine lv_iconst (v := 1) hx hb dX3_back_243 (by decide) ?_
                                refine lv_isub hx hb dX3_back_244 ?_
                                refine lv_topi (fun z_97 ez_97 => ?_)
                                have kz_97 := sub_toInt2 ez_97 (by omega) (by omega)
                                refine lv_i2l (v := Int32.toInt64 z_97) hx hb dX3_back_245 rfl ?_
                                have k_z_98 := Int32.toInt_toInt64 z_97
                                refine va_calli (va_runS (As := [.long z_71, .long 0, .long (Int32.toInt64 z_97)]) (rest := []) ⟨hx, hb, hml, hown, hts⟩ (c_X3_in l dC dI TT H.size z_71 0 (Int32.toInt64 z_97)) (va_cwS 3 hts gX3_back_X3_in rfl rfl rfl (by decide +kernel) ⟨Nat.le_of_ble_eq_true rfl, Nat.le_of_ble_eq_true rfl⟩) (pr_S (ws := []) (wA := []) (tys := []) vp_nil (hK.sub [] rfl) vd_nil hst hS (ro_free hS hA)) rfl rfl hl.1 rfl (lv_room (Nat.le_of_ble_eq_true rfl)) dX3_back_246 ⟨Nat.le_of_ble_eq_true rfl, Nat.le_of_ble_eq_true rfl⟩) hS (fun q _ h => (ro_free hS hA) q h) (ro_free hS hA) (fun r_99 u t H1 locs ht hvm hw hB hz1 hk1 hS => ?_)
                                have hP := ro_keep hP hk1
                                generalize H1 = H at hP hS ⊢
                                rcases hw with ⟨rfl, hp_100⟩ | ⟨rfl, hp_100⟩
                                · refine lv_if_ne (tgt := 255) hx hb dX3_back_249 (by decide) (fun _ => ?_) (fun c9 => absurd c9 (by decide))
                                  refine lv_aload_n hx hb dX3_back_255 rfl (lv_at hl 5 rfl) ?_
                                  obtain ⟨k_101, hk_101⟩ := va_plg hg0.1 eq_38
                                  refine va_get (D := (dC, dI)) (ci := 3) (v := .ref s2_1) (C := RX3) (T := TX3) (N := 23) hx hb hts iX3_ hown hK hP k_101 hk_101 rfl 1 (by decide) (hts (.fieldLink RX3 13 "FieldLeavesModel" "classOf" "[I") (by decide +kernel)) (fun _ h9 => h9) rfl dX3_back_256 ?_
                                  refine lv_aload_n hx hb dX3_back_259 rfl (lv_at hl 5 rfl) ?_
                                  obtain ⟨k_102, hk_102⟩ := va_plg hg0.1 eq_38
                                  refine va_get (D := (dC, dI)) (ci := 3) (v := .ref s15_1) (C := RX3) (T := TX3) (N := 23) hx hb hts iX3_ hown hK hP k_102 hk_102 rfl 19 (by decide) (hts (.fieldLink RX3 56 "FieldLeavesModel" "made" "[I") (by decide +kernel)) (fun _ h9 => h9) rfl dX3_back_260 ?_
                                  refine lv_lload hx hb dX3_back_263 (lv_at hl 0 rfl) ?_
                                  refine lv_l2i hx hb dX3_back_265 rfl ?_
                                  refine lv_topi (fun z_103 ez_103 => ?_)
                                  have kz_103 := l2i_sm ez_103 (by omega) (by omega)
                                  have hq_t_104 : z_71.toInt.toNat = Int32.toNatClampNeg z_103 := by show _ = z_103.toInt.toNat; rw [kz_103]
                                  obtain ⟨k_105, hk_105⟩ := va_plg fs15_1.1 eg_47
                                  have h_105 : vp_in z_103 24 := (vp_in_iff.mpr (by constructor <;> omega))
                                  refine va_iald hx hb hK hP k_105 0 hk_105 rfl h_105 dX3_back_266 ?_
                                  refine lv_topi (fun z_105 ez_105 => ?_)
                                  have fz_105 := fg_47 _ (vp_lt h_105)
                                  rw [← ez_105] at fz_105
                                  have hdez_105 := congrArg Int32.toInt ez_105
                                  obtain ⟨k_106, hk_106⟩ := va_plg fs2_1.1 eg_43
                                  have h_106 : vp_in z_105 6400 := (vp_in_iff.mpr (by constructor <;> omega))
                                  refine va_iald hx hb hK hP k_106 0 hk_106 rfl h_106 dX3_back_267 ?_
                                  refine lv_topi (fun z_106 ez_106 => ?_)
                                  have hdez_106 := congrArg Int32.toInt ez_106
                                  refine lv_iload hx hb dX3_back_268 (lv_at hl 1 rfl) ?_
                                  refine va_calli (va_runS (As := [.int z_106, .int z_69]) (rest := []) ⟨hx, hb, hml, hown, hts⟩ (v_X3_mayBeIn l dC dI TT H.size z_106 z_69) (va_cwS 2 hts gX3_back_X3_mayBeIn rfl rfl rfl (by decide +kernel) ⟨Nat.le_of_ble_eq_true rfl, Nat.le_of_ble_eq_true rfl⟩) (pr_S (ws := []) (wA := []) (tys := []) vp_nil (hK.sub [] rfl) vd_nil hst hS (ro_free hS hA)) rfl rfl hl.1 rfl (lv_room (Nat.le_of_ble_eq_true rfl)) dX3_back_270 ⟨Nat.le_of_ble_eq_true rfl, Nat.le_of_ble_eq_true rfl⟩) hS (fun q _ h => (ro_free hS hA) q h) (ro_free hS hA) (fun r_107 u t H1 locs ht hvm hw hB hz1 hk1 hS => ?_)
                                  have hP := ro_keep hP hk1
                                  generalize H1 = H at hP hS ⊢
                                  rcases hw with ⟨rfl, hp_108⟩ | ⟨rfl, hp_108⟩
                                  · have hcv : z_106 = csT ll z_71.toInt.toNat := by rw [ez_106, ez_105, hq_t_104, (hmk _ (by have h7 := clamp_int (i := z_103) (by omega); omega)).2]; exact (hRB.2.2.2 _ (by have h7 := clamp_int (i := z_103) (by omega); omega)).1
                                    rw [hcv] at hp_108
                                    refine lv_if_ne (tgt := 279) hx hb dX3_back_273 (by decide) (fun _ => ?_) (fun c9 => absurd c9 (by decide))
                                    refine lv_aload_n hx hb dX3_back_279 rfl (lv_at hl 5 rfl) ?_
                                    obtain ⟨k_109, hk_109⟩ := va_plg hg0.1 eq_38
                                    refine va_get (D := (dC, dI)) (ci := 3) (v := .ref s3_1) (C := RX3) (T := TX3) (N := 23) hx hb hts iX3_ hown hK hP k_109 hk_109 rfl 2 (by decide) (hts (.fieldLink RX3 17 "FieldLeavesModel" "field" "[J") (by decide +kernel)) (fun _ h9 => h9) rfl dX3_back_280 ?_
                                    refine lv_bipush (v := 17) hx hb dX3_back_283 (by decide) ?_
                                    refine lv_iload hx hb dX3_back_285 (lv_at hl 2 rfl) ?_
                                    refine lv_imul hx hb dX3_back_287 ?_
                                    refine lv_topi (fun z_110 ez_110 => ?_)
                                    have kz_110 := mul17 ez_110 (by omega) (by omega)
                                    refine lv_iload hx hb dX3_back_288 (lv_at hl 1 rfl) ?_
                                    refine lv_iadd hx hb dX3_back_290 ?_
                                    refine lv_topi (fun z_111 ez_111 => ?_)
                                    have kz_111 := add_toInt ez_111 (by omega) (by omega)
                                    refine lv_aload_n hx hb dX3_back_291 rfl (lv_at hl 5 rfl) ?_
                                    obtain ⟨k_112, hk_112⟩ := va_plg hg0.1 eq_38
                                    refine va_get (D := (dC, dI)) (ci := 3) (v := .ref s15_1) (C := RX3) (T := TX3) (N := 23) hx hb hts iX3_ hown hK hP k_112 hk_112 rfl 19 (by decide) (hts (.fieldLink RX3 56 "FieldLeavesModel" "made" "[I") (by decide +kernel)) (fun _ h9 => h9) rfl dX3_back_292 ?_
                                    refine lv_lload hx hb dX3_back_295 (lv_at hl 0 rfl) ?_
                                    refine lv_l2i hx hb dX3_back_297 rfl ?_
                                    refine lv_topi (fun z_113 ez_113 => ?_)
                                    have kz_113 := l2i_sm ez_113 (by omega) (by omega)
                                    have hq_t_114 : z_71.toInt.toNat = Int32.toNatClampNeg z_113 := by show _ = z_113.toInt.toNat; rw [kz_113]
                                    obtain ⟨k_115, hk_115⟩ := va_plg fs15_1.1 eg_47
                                    have h_115 : vp_in z_113 24 := (vp_in_iff.mpr (by constructor <;> omega))
                                    refine va_iald hx hb hK hP k_115 0 hk_115 rfl h_115 dX3_back_298 ?_
                                    refine lv_topi (fun z_115 ez_115 => ?_)
                                    have fz_115 := fg_47 _ (vp_lt h_115)
                                    rw [← ez_115] at fz_115
                                    have hdez_115 := congrArg Int32.toInt ez_115
                                    refine lv_i2l (v := Int32.toInt64 z_115) hx hb dX3_back_299 rfl ?_
                                    have k_z_116 := Int32.toInt_toInt64 z_115
                                    obtain ⟨k_117, hk_117⟩ := va_plg fs3_1.1 eg_44
                                    have hq_i_118 := idx_clamp (o := z_67) (f := z_69) (w := z_111) (by omega) (by omega) (by omega)
                                    have h_117 : vp_in z_111 108800 := (vp_in_iff.mpr (by constructor <;> omega))
                                    have fw_117 := rgF.link fg_44 (k := Int32.toNatClampNeg z_111) (v := (Int32.toInt64 z_115)) (by constructor <;> omega)
                                    have hD9 := hD
                                    refine va_last hx hb hK hP hD hS k_117 1 hk_117 rfl h_117 dX3_back_300 (fun H locs hP hD hS => ?_)
                                    have hP : va_P (dC, dI) vwCl (va_pl L (va_up fl140 s3_1 (.inl (kJ, 108800, .inr (.inl (vp_updL fF1 (Int32.toNatClampNeg z_111) (Int32.toInt64 z_115))))))) H := by rw [← va_pls hD9 fs3_1.1 hk_117 _]; exact hP
                                    have hD : va_D A (va_pl L (va_up fl140 s3_1 (.inl (kJ, 108800, .inr (.inl (vp_updL fF1 (Int32.toNatClampNeg z_111) (Int32.toInt64 z_115))))))) := by rw [← va_pls hD9 fs3_1.1 hk_117 _]; exact hD
                                    have hPI := hPI.put (e := .inl (kJ, 108800, .inr (.inl (vp_updL fF1 (Int32.toNatClampNeg z_111) (Int32.toInt64 z_115))))) fs3_1 ⟨_, rfl, fw_117⟩
                                    have es_f_119 : va_up fl140 s3_1 (.inl (kJ, 108800, .inr (.inl (vp_updL fF1 (Int32.toNatClampNeg z_111) (Int32.toInt64 z_115))))) s3_1 = .inl (kJ, 108800, .inr (.inl (vp_updL fF1 (Int32.toNatClampNeg z_111) (Int32.toInt64 z_115)))) := va_up_self _ _ _
                                    have eq_120 := (va_up_ne fl140 (.inl (kJ, 108800, .inr (.inl (vp_updL fF1 (Int32.toNatClampNeg z_111) (Int32.toInt64 z_115))))) (isr_ne hg0 fs3_1 (by decide))).trans eq_38
                                    have eq_121 := (va_up_ne fl140 (.inl (kJ, 108800, .inr (.inl (vp_updL fF1 (Int32.toNatClampNeg z_111) (Int32.toInt64 z_115))))) (isr_ne fs8_1 fs3_1 (by decide))).trans eq_39
                                    have eq_122 := (va_up_ne fl140 (.inl (kJ, 108800, .inr (.inl (vp_updL fF1 (Int32.toNatClampNeg z_111) (Int32.toInt64 z_115))))) (isr_ne fs9_1 fs3_1 (by decide))).trans eq_40
                                    have eq_123 := (va_up_ne fl140 (.inl (kJ, 108800, .inr (.inl (vp_updL fF1 (Int32.toNatClampNeg z_111) (Int32.toInt64 z_115))))) (isr_ne fs10_1 fs3_1 (by decide))).trans eq_41
                                    have eq_124 := (va_up_ne fl140 (.inl (kJ, 108800, .inr (.inl (vp_updL fF1 (Int32.toNatClampNeg z_111) (Int32.toInt64 z_115))))) (isr_ne fs1_1 fs3_1 (by decide))).trans eg_42
                                    have eq_125 := (va_up_ne fl140 (.inl (kJ, 108800, .inr (.inl (vp_updL fF1 (Int32.toNatClampNeg z_111) (Int32.toInt64 z_115))))) (isr_ne fs2_1 fs3_1 (by decide))).trans eg_43
                                    have eq_126 := (va_up_ne fl140 (.inl (kJ, 108800, .inr (.inl (vp_updL fF1 (Int32.toNatClampNeg z_111) (Int32.toInt64 z_115))))) (isr_ne fs4_1 fs3_1 (by decide))).trans eg_45
                                    have eq_127 := (va_up_ne fl140 (.inl (kJ, 108800, .inr (.inl (vp_updL fF1 (Int32.toNatClampNeg z_111) (Int32.toInt64 z_115))))) (isr_ne fs5_1 fs3_1 (by decide))).trans eg_46
                                    have eq_128 := (va_up_ne fl140 (.inl (kJ, 108800, .inr (.inl (vp_updL fF1 (Int32.toNatClampNeg z_111) (Int32.toInt64 z_115))))) (isr_ne fs15_1 fs3_1 (by decide))).trans eg_47
                                    have hfr := fr_up (S := (sK [11, 12, 13, 14, 15, 16, 17, 25])) (e := .inl (kJ, 108800, .inr (.inl (vp_updL fF1 (Int32.toNatClampNeg z_111) (Int32.toInt64 z_115))))) hfr fs3_1 (by decide)
                                    generalize hg_f_119 : va_up fl140 s3_1 (.inl (kJ, 108800, .inr (.inl (vp_updL fF1 (Int32.toNatClampNeg z_111) (Int32.toInt64 z_115))))) = f_119 at hP hD hPI es_f_119 eq_120 eq_121 eq_122 eq_123 eq_124 eq_125 eq_126 eq_127 eq_128 hfr
                                    refine lv_goto (tgt := 329) hx hb dX3_back_301 (by decide) ?_
                                    obtain ⟨i_129, ei_129⟩ : ∃ y : Int32, y = m3 + 1 := ⟨_, rfl⟩
                                    refine lv_iinc (v := i_129) (lv' := [(3, .int i_129), (6, .long z_71), (5, .int z_69), (4, .int z_67), (2, .int z_10), (0, .ref g0), (1, .int p0)]) hx hb dX3_back_329 hl (k := 3) rfl (by rw [ei_129]; rfl) (by decide) rfl (fun ls hl => ?_)
                                    have ki_129 := inc_toInt ei_129 (by omega)
                                    refine lv_goto (tgt := 140) hx hb dX3_back_332 (by decide) ?_
                                    exact ih_140 i_129 f_119 _ _ _  (by omega) (by omega) ⟨hfr, ⟨_, _, _, _, _, _, ps, ⟨SV.mk hU fs1_1 fs2_1 fs3_1 eq_124 eq_125 es_f_119, ⟨un_row hU fs4_1 eq_126, un_row hU fs5_1 eq_127⟩, ⟨un_row hU fs8_1 eq_121, un_row hU fs9_1 eq_122, un_row hU fs10_1 eq_123⟩, (by rw [eq_120]; rfl), (by rw [eq_120]; rfl)⟩, MV.mk hU fs15_1 eq_128, bb_link (o := z_67) (f := z_69) (p := z_66) (q := z_113) hBB (by constructor <;> omega) (by constructor <;> omega) ez_67 ez_115 (by omega) (by constructor <;> omega) (by omega), (by rw [foldl_at rstV _ hLL (by omega) (by omega) ki_129, foldl_at stN _ hLL (by omega) (by omega) ki_129, foldl_at rstZ _ hLL (by omega) (by omega) ki_129, foldl_at rstW _ hLL (by omega) (by omega) ki_129, ← ez_66, ← ez_69, ← ez_71]; rw [rstV_no (by omega), stN_in (by omega), rstZ_no (by omega), rstW_no (by omega)]; rw [hq_i_118, hpo, hq_t_114]; have h6 := rb_link (w := Int32.toNatClampNeg z_69) (b := Int32.toNatClampNeg z_113) (v := Int32.toInt64 z_115) hRB (show Int32.toNatClampNeg z_66 < nO by have h7 := clamp_int (i := z_66) (by omega); omega) (by unfold lkf; have h7 := clamp_int (i := z_69) (by omega); omega) (by rw [← (hmk _ (show Int32.toNatClampNeg z_113 < nO by have h7 := clamp_int (i := z_113) (by omega); omega)).2, ← ez_115, ofNat_clamp (by omega)]); rw [clamp_int (i := z_69) (by omega)] at h6; exact h6), hmk, (rfcl_next hLL (by omega) (by omega) (by rw [← ez_66, ← ez_69, ← ez_71, rfd_lk (by omega), if_pos (by constructor <;> omega), if_pos hp_108]) ki_129).symm.trans hrfl⟩⟩ hPI hP hD hS (lv_sub hl [0, 4, 5, 6] rfl)
                                  · have hcv : z_106 = csT ll z_71.toInt.toNat := by rw [ez_106, ez_105, hq_t_104, (hmk _ (by have h7 := clamp_int (i := z_103) (by omega); omega)).2]; exact (hRB.2.2.2 _ (by have h7 := clamp_int (i := z_103) (by omega); omega)).1
                                    rw [hcv] at hp_108
                                    refine lv_if_ne (tgt := 279) hx hb dX3_back_273 (by decide) (fun c9 => absurd c9 (by decide)) (fun _ => ?_)
                                    have hrfx : rfd nO (csT ll) (lo (Int32.toNatClampNeg m3), ld (Int32.toNatClampNeg m3), lv (Int32.toNatClampNeg m3)) = (-14) := by rw [← ez_66, ← ez_69, ← ez_71, rfd_lk (by omega), if_pos (by constructor <;> omega), if_neg hp_108]
                                    have hrf : rfcl nO (csT ll) ll = (-14) := hrfl.symm.trans ((rfcl_hit hLL (by omega) (by omega) (by rw [hrfx]; decide)).trans hrfx)
                                    refine lv_bipush (v := (-14)) hx hb dX3_back_276 (by decide) ?_
                                    subst eQ
                                    exact W.iret (v := (-14)) hx hb hr (fun t ht hW => ⟨⟨(-14), (), rfl, (show rs_back ll nO p0 (-14) from ⟨fun h9 => absurd (by omega) h9, fun _ h9 => absurd h9 hne, fun _ _ h9 => absurd h9.choose_spec.2 (hgood _ h9.choose_spec.1), fun _ _ _ _ => hrf.symm, fun _ _ _ h9 => absurd (hrf.symm.trans h9) (by decide)⟩), fl140, hPI, ⟨(FR.tr hfrE87 (FR.tr hfrE140 hfr (fun _ h => h)) (fun _ h => h)), _, _, _, _, _, Or.inr ⟨⟨by omega, hne, hgood⟩, zM, ps, hMK, (fun i hi => (hmk i hi).1), Or.inl ⟨(by rw [hrf]; decide), rfl, bb_end hBB hEl hBl, hRB.1⟩⟩, ⟨SV.mk hU fs1_1 fs2_1 fs3_1 eg_42 eg_43 eg_44, ⟨un_row hU fs4_1 eg_45, un_row hU fs5_1 eg_46⟩, ⟨un_row hU fs8_1 eq_39, un_row hU fs9_1 eq_40, un_row hU fs10_1 eq_41⟩, (by rw [eq_38]; rfl), (by rw [eq_38]; rfl)⟩⟩, by rw [ht]; exact hP, hD⟩, hS.F ht⟩) hS.2.2 dX3_back_278
                                · refine lv_if_ne (tgt := 255) hx hb dX3_back_249 (by decide) (fun c9 => absurd c9 (by decide)) (fun _ => ?_)
                                  have hrfx : rfd nO (csT ll) (lo (Int32.toNatClampNeg m3), ld (Int32.toNatClampNeg m3), lv (Int32.toNatClampNeg m3)) = (-12) := by rw [← ez_66, ← ez_69, ← ez_71, rfd_lk (by omega), if_neg (by omega)]
                                  have hrf : rfcl nO (csT ll) ll = (-12) := hrfl.symm.trans ((rfcl_hit hLL (by omega) (by omega) (by rw [hrfx]; decide)).trans hrfx)
                                  refine lv_bipush (v := (-12)) hx hb dX3_back_252 (by decide) ?_
                                  subst eQ
                                  exact W.iret (v := (-12)) hx hb hr (fun t ht hW => ⟨⟨(-12), (), rfl, (show rs_back ll nO p0 (-12) from ⟨fun h9 => absurd (by omega) h9, fun _ h9 => absurd h9 hne, fun _ _ h9 => absurd h9.choose_spec.2 (hgood _ h9.choose_spec.1), fun _ _ _ _ => hrf.symm, fun _ _ _ h9 => absurd (hrf.symm.trans h9) (by decide)⟩), fl140, hPI, ⟨(FR.tr hfrE87 (FR.tr hfrE140 hfr (fun _ h => h)) (fun _ h => h)), _, _, _, _, _, Or.inr ⟨⟨by omega, hne, hgood⟩, zM, ps, hMK, (fun i hi => (hmk i hi).1), Or.inl ⟨(by rw [hrf]; decide), rfl, bb_end hBB hEl hBl, hRB.1⟩⟩, ⟨SV.mk hU fs1_1 fs2_1 fs3_1 eg_42 eg_43 eg_44, ⟨un_row hU fs4_1 eg_45, un_row hU fs5_1 eg_46⟩, ⟨un_row hU fs8_1 eq_39, un_row hU fs9_1 eq_40, un_row hU fs10_1 eq_41⟩, (by rw [eq_38]; rfl), (by rw [eq_38]; rfl)⟩⟩, by rw [ht]; exact hP, hD⟩, hS.F ht⟩) hS.2.2 dX3_back_254
                              · refine lv_if_eq (tgt := 304) hx hb dX3_back_236 (by decide) (fun _ => ?_) (fun c9 => absurd c9 (by decide))
                                refine lv_iload hx hb dX3_back_304 (lv_at hl 1 rfl) ?_
                                refine lv_if_lt (tgt := 329) hx hb dX3_back_306 (by decide) (fun c_130 => ?_) (fun c_130 => ?_)
                                · have c_130 := Int32.lt_iff_toInt_lt.mp c_130
                                  obtain ⟨i_131, ei_131⟩ : ∃ y : Int32, y = m3 + 1 := ⟨_, rfl⟩
                                  refine lv_iinc (v := i_131) (lv' := [(3, .int i_131), (6, .long z_71), (5, .int z_69), (4, .int z_67), (2, .int z_10), (0, .ref g0), (1, .int p0)]) hx hb dX3_back_329 hl (k := 3) rfl (by rw [ei_131]; rfl) (by decide) rfl (fun ls hl => ?_)
                                  have ki_131 := inc_toInt ei_131 (by omega)
                                  refine lv_goto (tgt := 140) hx hb dX3_back_332 (by decide) ?_
                                  exact ih_140 i_131 fl140 _ _ _  (by omega) (by omega) ⟨hfr, ⟨_, _, _, _, _, _, ps, ⟨SV.mk hU fs1_1 fs2_1 fs3_1 eg_42 eg_43 eg_44, ⟨un_row hU fs4_1 eg_45, un_row hU fs5_1 eg_46⟩, ⟨un_row hU fs8_1 eq_39, un_row hU fs9_1 eq_40, un_row hU fs10_1 eq_41⟩, (by rw [eq_38]; rfl), (by rw [eq_38]; rfl)⟩, MV.mk hU fs15_1 eg_47, hBB, (by rw [foldl_at rstV _ hLL (by omega) (by omega) ki_131, foldl_at stN _ hLL (by omega) (by omega) ki_131, foldl_at rstZ _ hLL (by omega) (by omega) ki_131, foldl_at rstW _ hLL (by omega) (by omega) ki_131, ← ez_66, ← ez_69, ← ez_71]; rw [rstV_no (by omega), stN_no (by omega), rstZ_no (by omega), rstW_no (by omega)]; exact hRB), hmk, (rfcl_next hLL (by omega) (by omega) (by rw [← ez_66, ← ez_69, ← ez_71]; exact rfd_no (by omega)) ki_131).symm.trans hrfl⟩⟩ hPI hP hD hS (lv_sub hl [0, 4, 5, 6] rfl)
                                · have c_130 := mt Int32.lt_iff_toInt_lt.mpr c_130
                                  refine lv_aload_n hx hb dX3_back_309 rfl (lv_at hl 5 rfl) ?_
                                  obtain ⟨k_132, hk_132⟩ := va_plg hg0.1 eq_38
                                  refine va_get (D := (dC, dI)) (ci := 3) (v := .ref s3_1) (C := RX3) (T := TX3) (N := 23) hx hb hts iX3_ hown hK hP k_132 hk_132 rfl 2 (by decide) (hts (.fieldLink RX3 17 "FieldLeavesModel" "field" "[J") (by decide +kernel)) (fun _ h9 => h9) rfl dX3_back_310 ?_
                                  refine lv_bipush (v := 17) hx hb dX3_back_313 (by decide) ?_
                                  refine lv_iload hx hb dX3_back_315 (lv_at hl 2 rfl) ?_
                                  refine lv_imul hx hb dX3_back_317 ?_
                                  refine lv_topi (fun z_133 ez_133 => ?_)
                                  have kz_133 := mul17 ez_133 (by omega) (by omega)
                                  refine lv_iload hx hb dX3_back_318 (lv_at hl 1 rfl) ?_
                                  refine lv_iadd hx hb dX3_back_320 ?_
                                  refine lv_topi (fun z_134 ez_134 => ?_)
                                  have kz_134 := add_toInt ez_134 (by omega) (by omega)
                                  refine lv_iload hx hb dX3_back_321 (lv_at hl 1 rfl) ?_
                                  refine lv_lload hx hb dX3_back_323 (lv_at hl 0 rfl) ?_
                                  refine va_calll (va_runS (As := [.int z_69, .long z_71]) (rest := [.int z_134, .ref s3_1]) ⟨hx, hb, hml, hown, hts⟩ (v_X3_valueOf l dC dI TT H.size kI kJ kZ K L fl140 hPI z_69 z_71) (va_cwS 2 hts gX3_back_X3_valueOf rfl rfl rfl (by decide +kernel) ⟨Nat.le_of_ble_eq_true rfl, Nat.le_of_ble_eq_true rfl⟩) (pr_S (ws := va_pl L fl140) (wA := []) (tys := [(kI, .int), (kJ, .long), (kZ, .boolean)]) hP hK vd_nil hst hS (ro_free hS hA)) rfl rfl hl.1 rfl (lv_room (Nat.le_of_ble_eq_true rfl)) dX3_back_325 ⟨Nat.le_of_ble_eq_true rfl, Nat.le_of_ble_eq_true rfl⟩) hS (fun q _ h => (ro_free hS hA) q h) (ro_free hS hA) (fun r_135 u t H1 locs ht hvm hw hB hz1 hk1 hS => ?_)
                                  have hP := ro_keep hP hk1
                                  generalize H1 = H at hP hS ⊢
                                  have hq_136 := hw
                                  obtain ⟨k_137, hk_137⟩ := va_plg fs3_1.1 eg_44
                                  have hq_i_138 := idx_clamp (o := z_67) (f := z_69) (w := z_134) (by omega) (by omega) (by omega)
                                  have h_137 : vp_in z_134 108800 := (vp_in_iff.mpr (by constructor <;> omega))
                                  have fw_137 := rgF.plain fg_44 (o := z_67) (f := z_69) (w := z_134) (v := r_135) (by constructor <;> omega) (by omega) (by omega)
                                  have hD9 := hD
                                  refine va_last hx hb hK hP hD hS k_137 1 hk_137 rfl h_137 dX3_back_328 (fun H locs hP hD hS => ?_)
                                  have hP : va_P (dC, dI) vwCl (va_pl L (va_up fl140 s3_1 (.inl (kJ, 108800, .inr (.inl (vp_updL fF1 (Int32.toNatClampNeg z_134) r_135)))))) H := by rw [← va_pls hD9 fs3_1.1 hk_137 _]; exact hP
                                  have hD : va_D A (va_pl L (va_up fl140 s3_1 (.inl (kJ, 108800, .inr (.inl (vp_updL fF1 (Int32.toNatClampNeg z_134) r_135)))))) := by rw [← va_pls hD9 fs3_1.1 hk_137 _]; exact hD
                                  have hPI := hPI.put (e := .inl (kJ, 108800, .inr (.inl (vp_updL fF1 (Int32.toNatClampNeg z_134) r_135)))) fs3_1 ⟨_, rfl, fw_137⟩
                                  have es_f_139 : va_up fl140 s3_1 (.inl (kJ, 108800, .inr (.inl (vp_updL fF1 (Int32.toNatClampNeg z_134) r_135)))) s3_1 = .inl (kJ, 108800, .inr (.inl (vp_updL fF1 (Int32.toNatClampNeg z_134) r_135))) := va_up_self _ _ _
                                  have eq_140 := (va_up_ne fl140 (.inl (kJ, 108800, .inr (.inl (vp_updL fF1 (Int32.toNatClampNeg z_134) r_135)))) (isr_ne hg0 fs3_1 (by decide))).trans eq_38
                                  have eq_141 := (va_up_ne fl140 (.inl (kJ, 108800, .inr (.inl (vp_updL fF1 (Int32.toNatClampNeg z_134) r_135)))) (isr_ne fs8_1 fs3_1 (by decide))).trans eq_39
                                  have eq_142 := (va_up_ne fl140 (.inl (kJ, 108800, .inr (.inl (vp_updL fF1 (Int32.toNatClampNeg z_134) r_135)))) (isr_ne fs9_1 fs3_1 (by decide))).trans eq_40
                                  have eq_143 := (va_up_ne fl140 (.inl (kJ, 108800, .inr (.inl (vp_updL fF1 (Int32.toNatClampNeg z_134) r_135)))) (isr_ne fs10_1 fs3_1 (by decide))).trans eq_41
                                  have eq_144 := (va_up_ne fl140 (.inl (kJ, 108800, .inr (.inl (vp_updL fF1 (Int32.toNatClampNeg z_134) r_135)))) (isr_ne fs1_1 fs3_1 (by decide))).trans eg_42
                                  have eq_145 := (va_up_ne fl140 (.inl (kJ, 108800, .inr (.inl (vp_updL fF1 (Int32.toNatClampNeg z_134) r_135)))) (isr_ne fs2_1 fs3_1 (by decide))).trans eg_43
                                  have eq_146 := (va_up_ne fl140 (.inl (kJ, 108800, .inr (.inl (vp_updL fF1 (Int32.toNatClampNeg z_134) r_135)))) (isr_ne fs4_1 fs3_1 (by decide))).trans eg_45
                                  have eq_147 := (va_up_ne fl140 (.inl (kJ, 108800, .inr (.inl (vp_updL fF1 (Int32.toNatClampNeg z_134) r_135)))) (isr_ne fs5_1 fs3_1 (by decide))).trans eg_46
                                  have eq_148 := (va_up_ne fl140 (.inl (kJ, 108800, .inr (.inl (vp_updL fF1 (Int32.toNatClampNeg z_134) r_135)))) (isr_ne fs15_1 fs3_1 (by decide))).trans eg_47
                                  have hfr := fr_up (S := (sK [11, 12, 13, 14, 15, 16, 17, 25])) (e := .inl (kJ, 108800, .inr (.inl (vp_updL fF1 (Int32.toNatClampNeg z_134) r_135)))) hfr fs3_1 (by decide)
                                  generalize hg_f_139 : va_up fl140 s3_1 (.inl (kJ, 108800, .inr (.inl (vp_updL fF1 (Int32.toNatClampNeg z_134) r_135)))) = f_139 at hP hD hPI es_f_139 eq_140 eq_141 eq_142 eq_143 eq_144 eq_145 eq_146 eq_147 eq_148 hfr
                                  obtain ⟨i_149, ei_149⟩ : ∃ y : Int32, y = m3 + 1 := ⟨_, rfl⟩
                                  refine lv_iinc (v := i_149) (lv' := [(3, .int i_149), (6, .long z_71), (5, .int z_69), (4, .int z_67), (2, .int z_10), (0, .ref g0), (1, .int p0)]) hx hb dX3_back_329 hl (k := 3) rfl (by rw [ei_149]; rfl) (by decide) rfl (fun ls hl => ?_)
                                  have ki_149 := inc_toInt ei_149 (by omega)
                                  refine lv_goto (tgt := 140) hx hb dX3_back_332 (by decide) ?_
                                  exact ih_140 i_149 f_139 _ _ _  (by omega) (by omega) ⟨hfr, ⟨_, _, _, _, _, _, ps, ⟨SV.mk hU fs1_1 fs2_1 fs3_1 eq_144 eq_145 es_f_139, ⟨un_row hU fs4_1 eq_146, un_row hU fs5_1 eq_147⟩, ⟨un_row hU fs8_1 eq_141, un_row hU fs9_1 eq_142, un_row hU fs10_1 eq_143⟩, (by rw [eq_140]; rfl), (by rw [eq_140]; rfl)⟩, MV.mk hU fs15_1 eq_148, bb_plain hBB (plain_ne (o := z_67) (f := z_69) (by omega) (by omega) (by omega)), (by rw [foldl_at rstV _ hLL (by omega) (by omega) ki_149, foldl_at stN _ hLL (by omega) (by omega) ki_149, foldl_at rstZ _ hLL (by omega) (by omega) ki_149, foldl_at rstW _ hLL (by omega) (by omega) ki_149, ← ez_66, ← ez_69, ← ez_71]; rw [rstV_in (by omega), ← hq_136, stN_no (by omega), rstZ_no (by omega), rstW_no (by omega)]; rw [hq_i_138, hpo]; exact rb_val hRB (show Int32.toNatClampNeg z_66 < nO by have h7 := clamp_int (i := z_66) (by omega); omega) (by have h7 := clamp_int (i := z_69) (by omega); omega) (by unfold lkf; have h7 := clamp_int (i := z_69) (by omega); omega)), hmk, (rfcl_next hLL (by omega) (by omega) (by rw [← ez_66, ← ez_69, ← ez_71]; exact rfd_no (by omega)) ki_149).symm.trans hrfl⟩⟩ hPI hP hD hS (lv_sub hl [0, 4, 5, 6] rfl)
                          · have c_73 := congrArg Int32.toInt c_73
                            have h9v : 0 ≤ z_71.toInt ∧ z_71.toInt ≤ 20 := by rw [ez_71]; exact hxm.2 (by show (ld (Int32.toNatClampNeg m3)).toInt = 9; rw [← ez_69]; omega)
                            refine lv_aload_n hx hb dX3_back_213 rfl (lv_at hl 5 rfl) ?_
                            obtain ⟨k_150, hk_150⟩ := va_plg hg0.1 eq_38
                            refine va_get (D := (dC, dI)) (ci := 3) (v := .ref s4_1) (C := RX3) (T := TX3) (N := 23) hx hb hts iX3_ hown hK hP k_150 hk_150 rfl 3 (by decide) (hts (.fieldLink RX3 21 "FieldLeavesModel" "rowSize" "[I") (by decide +kernel)) (fun _ h9 => h9) rfl dX3_back_214 ?_
                            refine lv_iload hx hb dX3_back_217 (lv_at hl 2 rfl) ?_
                            refine lv_lload hx hb dX3_back_219 (lv_at hl 0 rfl) ?_
                            refine lv_l2i hx hb dX3_back_221 rfl ?_
                            refine lv_topi (fun z_151 ez_151 => ?_)
                            have kz_151 := l2i_sm ez_151 (by omega) (by omega)
                            have hq_t_152 : z_71.toInt.toNat = Int32.toNatClampNeg z_151 := by show _ = z_151.toInt.toNat; rw [kz_151]
                            obtain ⟨k_153, hk_153⟩ := va_plg fs4_1.1 eg_45
                            have h_153 : vp_in z_67 6400 := (vp_in_iff.mpr (by constructor <;> omega))
                            have fw_153 := updS (P := fun v => -1 ≤ v.toInt ∧ v.toInt ≤ 20) (k := Int32.toNatClampNeg z_67) (v := z_151) fg_45 (by omega)
                            have hD9 := hD
                            refine va_iast hx hb hK hP hD hS k_153 0 hk_153 rfl h_153 dX3_back_222 (fun H locs hP hD hS => ?_)
                            have hP : va_P (dC, dI) vwCl (va_pl L (va_up fl140 s4_1 (.inl (kI, 6400, .inl (upd fR1 (Int32.toNatClampNeg z_67) z_151))))) H := by rw [← va_pls hD9 fs4_1.1 hk_153 _]; exact hP
                            have hD : va_D A (va_pl L (va_up fl140 s4_1 (.inl (kI, 6400, .inl (upd fR1 (Int32.toNatClampNeg z_67) z_151))))) := by rw [← va_pls hD9 fs4_1.1 hk_153 _]; exact hD
                            have hPI := hPI.put (e := .inl (kI, 6400, .inl (upd fR1 (Int32.toNatClampNeg z_67) z_151))) fs4_1 ⟨_, rfl, fw_153⟩
                            have es_f_154 : va_up fl140 s4_1 (.inl (kI, 6400, .inl (upd fR1 (Int32.toNatClampNeg z_67) z_151))) s4_1 = .inl (kI, 6400, .inl (upd fR1 (Int32.toNatClampNeg z_67) z_151)) := va_up_self _ _ _
                            have eq_155 := (va_up_ne fl140 (.inl (kI, 6400, .inl (upd fR1 (Int32.toNatClampNeg z_67) z_151))) (isr_ne hg0 fs4_1 (by decide))).trans eq_38
                            have eq_156 := (va_up_ne fl140 (.inl (kI, 6400, .inl (upd fR1 (Int32.toNatClampNeg z_67) z_151))) (isr_ne fs8_1 fs4_1 (by decide))).trans eq_39
                            have eq_157 := (va_up_ne fl140 (.inl (kI, 6400, .inl (upd fR1 (Int32.toNatClampNeg z_67) z_151))) (isr_ne fs9_1 fs4_1 (by decide))).trans eq_40
                            have eq_158 := (va_up_ne fl140 (.inl (kI, 6400, .inl (upd fR1 (Int32.toNatClampNeg z_67) z_151))) (isr_ne fs10_1 fs4_1 (by decide))).trans eq_41
                            have eq_159 := (va_up_ne fl140 (.inl (kI, 6400, .inl (upd fR1 (Int32.toNatClampNeg z_67) z_151))) (isr_ne fs1_1 fs4_1 (by decide))).trans eg_42
                            have eq_160 := (va_up_ne fl140 (.inl (kI, 6400, .inl (upd fR1 (Int32.toNatClampNeg z_67) z_151))) (isr_ne fs2_1 fs4_1 (by decide))).trans eg_43
                            have eq_161 := (va_up_ne fl140 (.inl (kI, 6400, .inl (upd fR1 (Int32.toNatClampNeg z_67) z_151))) (isr_ne fs3_1 fs4_1 (by decide))).trans eg_44
                            have eq_162 := (va_up_ne fl140 (.inl (kI, 6400, .inl (upd fR1 (Int32.toNatClampNeg z_67) z_151))) (isr_ne fs5_1 fs4_1 (by decide))).trans eg_46
                            have eq_163 := (va_up_ne fl140 (.inl (kI, 6400, .inl (upd fR1 (Int32.toNatClampNeg z_67) z_151))) (isr_ne fs15_1 fs4_1 (by decide))).trans eg_47
                            have hfr := fr_up (S := (sK [11, 12, 13, 14, 15, 16, 17, 25])) (e := .inl (kI, 6400, .inl (upd fR1 (Int32.toNatClampNeg z_67) z_151))) hfr fs4_1 (by decide)
                            generalize hg_f_154 : va_up fl140 s4_1 (.inl (kI, 6400, .inl (upd fR1 (Int32.toNatClampNeg z_67) z_151))) = f_154 at hP hD hPI es_f_154 eq_155 eq_156 eq_157 eq_158 eq_159 eq_160 eq_161 eq_162 eq_163 hfr
                            refine lv_goto (tgt := 329) hx hb dX3_back_223 (by decide) ?_
                            obtain ⟨i_164, ei_164⟩ : ∃ y : Int32, y = m3 + 1 := ⟨_, rfl⟩
                            refine lv_iinc (v := i_164) (lv' := [(3, .int i_164), (6, .long z_71), (5, .int z_69), (4, .int z_67), (2, .int z_10), (0, .ref g0), (1, .int p0)]) hx hb dX3_back_329 hl (k := 3) rfl (by rw [ei_164]; rfl) (by decide) rfl (fun ls hl => ?_)
                            have ki_164 := inc_toInt ei_164 (by omega)
                            refine lv_goto (tgt := 140) hx hb dX3_back_332 (by decide) ?_
                            exact ih_140 i_164 f_154 _ _ _  (by omega) (by omega) ⟨hfr, ⟨_, _, _, _, _, _, ps, ⟨SV.mk hU fs1_1 fs2_1 fs3_1 eq_159 eq_160 eq_161, ⟨un_row hU fs4_1 es_f_154, un_row hU fs5_1 eq_162⟩, ⟨un_row hU fs8_1 eq_156, un_row hU fs9_1 eq_157, un_row hU fs10_1 eq_158⟩, (by rw [eq_155]; rfl), (by rw [eq_155]; rfl)⟩, MV.mk hU fs15_1 eq_163, hBB, (by rw [foldl_at rstV _ hLL (by omega) (by omega) ki_164, foldl_at stN _ hLL (by omega) (by omega) ki_164, foldl_at rstZ _ hLL (by omega) (by omega) ki_164, foldl_at rstW _ hLL (by omega) (by omega) ki_164, ← ez_66, ← ez_69, ← ez_71]; rw [rstV_no (by omega), stN_no (by omega), rstZ_in (by omega), ← ez_151, rstW_no (by omega)]; rw [hpo]; exact rb_row hRB (show Int32.toNatClampNeg z_66 < nO by have h7 := clamp_int (i := z_66) (by omega); omega)), hmk, (rfcl_next hLL (by omega) (by omega) (by rw [← ez_66, ← ez_69, ← ez_71]; exact rfd_no (by omega)) ki_164).symm.trans hrfl⟩⟩ hPI hP hD hS (lv_sub hl [0, 4, 5, 6] rfl)
                        · have c_72 := mt Int32.lt_iff_toInt_lt.mpr c_72
                          refine lv_aload_n hx hb dX3_back_184 rfl (lv_at hl 5 rfl) ?_
                          obtain ⟨k_165, hk_165⟩ := va_plg hg0.1 eq_38
                          refine va_get (D := (dC, dI)) (ci := 3) (v := .ref s5_1) (C := RX3) (T := TX3) (N := 23) hx hb hts iX3_ hown hK hP k_165 hk_165 rfl 4 (by decide) (hts (.fieldLink RX3 25 "FieldLeavesModel" "rows" "[I") (by decide +kernel)) (fun _ h9 => h9) rfl dX3_back_185 ?_
                          refine lv_bipush (v := 20) hx hb dX3_back_188 (by decide) ?_
                          refine lv_iload hx hb dX3_back_190 (lv_at hl 2 rfl) ?_
                          refine lv_imul hx hb dX3_back_192 ?_
                          refine lv_topi (fun z_166 ez_166 => ?_)
                          have kz_166 := mul20 ez_166 (by omega) (by omega)
                          refine lv_iload hx hb dX3_back_193 (lv_at hl 1 rfl) ?_
                          refine lv_iadd hx hb dX3_back_195 ?_
                          refine lv_topi (fun z_167 ez_167 => ?_)
                          have kz_167 := add_toInt ez_167 (by omega) (by omega)
                          refine lv_bipush (v := 100) hx hb dX3_back_196 (by decide) ?_
                          refine lv_isub hx hb dX3_back_198 ?_
                          refine lv_topi (fun z_168 ez_168 => ?_)
                          have kz_168 := sub_toInt2 ez_168 (by omega) (by omega)
                          refine lv_lload hx hb dX3_back_199 (lv_at hl 0 rfl) ?_
                          refine lv_l2i hx hb dX3_back_201 rfl ?_
                          refine lv_topi (fun z_169 ez_169 => ?_)
                          have hqp_170 : Int32.toNatClampNeg z_168 = 20 * Int32.toNatClampNeg z_67 + (z_69.toInt - 100).toNat := by have h7 := clamp_int (i := z_168) (by omega); have h6 := clamp_int (i := z_67) (by omega); omega
                          obtain ⟨k_171, hk_171⟩ := va_plg fs5_1.1 eg_46
                          have h_171 : vp_in z_168 128000 := (vp_in_iff.mpr (by constructor <;> omega))
                          have fw_171 := trivial
                          have hD9 := hD
                          refine va_iast hx hb hK hP hD hS k_171 0 hk_171 rfl h_171 dX3_back_202 (fun H locs hP hD hS => ?_)
                          have hP : va_P (dC, dI) vwCl (va_pl L (va_up fl140 s5_1 (.inl (kI, 128000, .inl (upd fW1 (Int32.toNatClampNeg z_168) z_169))))) H := by rw [← va_pls hD9 fs5_1.1 hk_171 _]; exact hP
                          have hD : va_D A (va_pl L (va_up fl140 s5_1 (.inl (kI, 128000, .inl (upd fW1 (Int32.toNatClampNeg z_168) z_169))))) := by rw [← va_pls hD9 fs5_1.1 hk_171 _]; exact hD
                          have hPI := hPI.put (e := .inl (kI, 128000, .inl (upd fW1 (Int32.toNatClampNeg z_168) z_169))) fs5_1 ⟨_, rfl, fw_171⟩
                          have es_f_172 : va_up fl140 s5_1 (.inl (kI, 128000, .inl (upd fW1 (Int32.toNatClampNeg z_168) z_169))) s5_1 = .inl (kI, 128000, .inl (upd fW1 (Int32.toNatClampNeg z_168) z_169)) := va_up_self _ _ _
                          have eq_173 := (va_up_ne fl140 (.inl (kI, 128000, .inl (upd fW1 (Int32.toNatClampNeg z_168) z_169))) (isr_ne hg0 fs5_1 (by decide))).trans eq_38
                          have eq_174 := (va_up_ne fl140 (.inl (kI, 128000, .inl (upd fW1 (Int32.toNatClampNeg z_168) z_169))) (isr_ne fs8_1 fs5_1 (by decide))).trans eq_39
                          have eq_175 := (va_up_ne fl140 (.inl (kI, 128000, .inl (upd fW1 (Int32.toNatClampNeg z_168) z_169))) (isr_ne fs9_1 fs5_1 (by decide))).trans eq_40
                          have eq_176 := (va_up_ne fl140 (.inl (kI, 128000, .inl (upd fW1 (Int32.toNatClampNeg z_168) z_169))) (isr_ne fs10_1 fs5_1 (by decide))).trans eq_41
                          have eq_177 := (va_up_ne fl140 (.inl (kI, 128000, .inl (upd fW1 (Int32.toNatClampNeg z_168) z_169))) (isr_ne fs1_1 fs5_1 (by decide))).trans eg_42
                          have eq_178 := (va_up_ne fl140 (.inl (kI, 128000, .inl (upd fW1 (Int32.toNatClampNeg z_168) z_169))) (isr_ne fs2_1 fs5_1 (by decide))).trans eg_43
                          have eq_179 := (va_up_ne fl140 (.inl (kI, 128000, .inl (upd fW1 (Int32.toNatClampNeg z_168) z_169))) (isr_ne fs3_1 fs5_1 (by decide))).trans eg_44
                          have eq_180 := (va_up_ne fl140 (.inl (kI, 128000, .inl (upd fW1 (Int32.toNatClampNeg z_168) z_169))) (isr_ne fs4_1 fs5_1 (by decide))).trans eg_45
                          have eq_181 := (va_up_ne fl140 (.inl (kI, 128000, .inl (upd fW1 (Int32.toNatClampNeg z_168) z_169))) (isr_ne fs15_1 fs5_1 (by decide))).trans eg_47
                          have hfr := fr_up (S := (sK [11, 12, 13, 14, 15, 16, 17, 25])) (e := .inl (kI, 128000, .inl (upd fW1 (Int32.toNatClampNeg z_168) z_169))) hfr fs5_1 (by decide)
                          generalize hg_f_172 : va_up fl140 s5_1 (.inl (kI, 128000, .inl (upd fW1 (Int32.toNatClampNeg z_168) z_169))) = f_172 at hP hD hPI es_f_172 eq_173 eq_174 eq_175 eq_176 eq_177 eq_178 eq_179 eq_180 eq_181 hfr
                          refine lv_goto (tgt := 329) hx hb dX3_back_203 (by decide) ?_
                          obtain ⟨i_182, ei_182⟩ : ∃ y : Int32, y = m3 + 1 := ⟨_, rfl⟩
                          refine lv_iinc (v := i_182) (lv' := [(3, .int i_182), (6, .long z_71), (5, .int z_69), (4, .int z_67), (2, .int z_10), (0, .ref g0), (1, .int p0)]) hx hb dX3_back_329 hl (k := 3) rfl (by rw [ei_182]; rfl) (by decide) rfl (fun ls hl => ?_)
                          have ki_182 := inc_toInt ei_182 (by omega)
                          refine lv_goto (tgt := 140) hx hb dX3_back_332 (by decide) ?_
                          exact ih_140 i_182 f_172 _ _ _  (by omega) (by omega) ⟨hfr, ⟨_, _, _, _, _, _, ps, ⟨SV.mk hU fs1_1 fs2_1 fs3_1 eq_177 eq_178 eq_179, ⟨un_row hU fs4_1 eq_180, un_row hU fs5_1 es_f_172⟩, ⟨un_row hU fs8_1 eq_174, un_row hU fs9_1 eq_175, un_row hU fs10_1 eq_176⟩, (by rw [eq_173]; rfl), (by rw [eq_173]; rfl)⟩, MV.mk hU fs15_1 eq_181, hBB, (by rw [foldl_at rstV _ hLL (by omega) (by omega) ki_182, foldl_at stN _ hLL (by omega) (by omega) ki_182, foldl_at rstZ _ hLL (by omega) (by omega) ki_182, foldl_at rstW _ hLL (by omega) (by omega) ki_182, ← ez_66, ← ez_69, ← ez_71]; rw [rstV_no (by omega), stN_no (by omega), rstZ_no (by omega), rstW_in (by omega), ← ez_169]; rw [hqp_170, hpo]; exact rb_place hRB (show Int32.toNatClampNeg z_66 < nO by have h7 := clamp_int (i := z_66) (by omega); omega) (by omega)), hmk, (rfcl_next hLL (by omega) (by omega) (by rw [← ez_66, ← ez_69, ← ez_71]; exact rfd_no (by omega)) ki_182).symm.trans hrfl⟩⟩ hPI hP hD hS (lv_sub hl [0, 4, 5, 6] rfl)
                  exact loop_140 301 0 fl87 _ _ _  (by omega) (by omega) ⟨FR.rf, ⟨_, _, _, fW, _, _, ps, ⟨SV.mk hU fs1_1 fs2_1 fs3_1 eg_30 eg_31 eg_32, ⟨un_row hU fs4_1 eg_33, un_row hU fs5_1 eg_34⟩, ⟨un_row hU fs8_1 eq_27, un_row hU fs9_1 eq_28, un_row hU fs10_1 eq_29⟩, (by rw [eq_26]; rfl), (by rw [eq_26]; rfl)⟩, MV.mk hU fs15_1 eg_36, (by have h8 : j3.toInt = z_10.toInt := (by omega); rw [h8] at hBB; exact hBB), (by rw [cl_0, ← hjn]; exact hRB), (fun i hi => (hmk.2 i (by omega)).2), (by rw [cl_0]; rfl)⟩⟩ hPI hP hD hS (lv_sub hl [0, 1, 2, 3] rfl)
                · have c_37 := mt Int32.le_iff_toInt_le.mpr c_37
                  refine lv_aload_n hx hb dX3_back_92 rfl (lv_at hl 2 rfl) ?_
                  refine lv_iload_n hx hb dX3_back_93 rfl (lv_at hl 0 rfl) ?_
                  refine lv_iconst (v := (-1)) hx hb dX3_back_94 (by decide) ?_
                  obtain ⟨k_183, hk_183⟩ := va_plg hg0.1 eq_26
                  refine va_calll (va_runV (b := g0) (As := [.int j3, .int (-1)]) (rest := []) ⟨hx, hb, hml, hown, hts⟩ (v_X3_told l dC dI TT H.size kI kJ kZ K L fl87 hPI g0 hg0 j3 (-1) hU fS fC1 fF1 fR1 fW lo ld lv lm_1 pa_1 hRVc ll hLL) (cwV 2 hts gX3_back_X3_told rfl rfl rfl (by decide +kernel) ⟨Nat.le_of_ble_eq_true rfl, Nat.le_of_ble_eq_true rfl⟩) ⟨pr_blind, va_recv hK hP (ci := 3) rfl hk_183, (pr_S (ws := va_pl L fl87) (wA := []) (tys := [(kI, .int), (kJ, .long), (kZ, .boolean)]) hP hK vd_nil hst hS (ro_free hS hA)).2⟩ rfl rfl hl.1 rfl (lv_room (Nat.le_of_ble_eq_true rfl)) dX3_back_95 ⟨Nat.le_of_ble_eq_true rfl, Nat.le_of_ble_eq_true rfl⟩) hS (fun q _ h => (ro_free hS hA) q h) (ro_free hS hA) (fun r_184 u t H1 locs ht hvm hw hB hz1 hk1 hS => ?_)
                  have hP := ro_keep hP hk1
                  generalize H1 = H at hP hS ⊢
                  have hq_185 := hw
                  refine lv_l2i hx hb dX3_back_98 rfl ?_
                  refine lv_topi (fun z_186 ez_186 => ?_)
                  refine lv_istore (lv' := [(4, .int z_186), (3, .int j3), (2, .int z_10), (0, .ref g0), (1, .int p0)]) hx hb dX3_back_99 hl (by decide) rfl (fun ls hl => ?_)
                  refine lv_aload_n hx hb dX3_back_101 rfl (lv_at hl 3 rfl) ?_
                  obtain ⟨k_187, hk_187⟩ := va_plg hg0.1 eq_26
                  refine va_get (D := (dC, dI)) (ci := 3) (v := .ref s15_1) (C := RX3) (T := TX3) (N := 23) hx hb hts iX3_ hown hK hP k_187 hk_187 rfl 19 (by decide) (hts (.fieldLink RX3 56 "FieldLeavesModel" "made" "[I") (by decide +kernel)) (fun _ h9 => h9) rfl dX3_back_102 ?_
                  refine lv_iload_n hx hb dX3_back_105 rfl (lv_at hl 1 rfl) ?_
                  refine lv_aload_n hx hb dX3_back_106 rfl (lv_at hl 3 rfl) ?_
                  refine lv_iload hx hb dX3_back_107 (lv_at hl 0 rfl) ?_
                  refine lv_aload_n hx hb dX3_back_109 rfl (lv_at hl 3 rfl) ?_
                  refine lv_iload_n hx hb dX3_back_110 rfl (lv_at hl 1 rfl) ?_
                  refine lv_iload hx hb dX3_back_111 (lv_at hl 0 rfl) ?_
                  refine lv_iconst (v := 2) hx hb dX3_back_113 (by decide) ?_
                  refine lv_icmp_ne (tgt := 122) hx hb dX3_back_114 (by decide) (fun c_188 => ?_) (fun c_188 => ?_)
                  · have c_188 := mt Int32.toInt_inj.mp c_188
                    refine lv_bipush (v := 16) hx hb dX3_back_122 (by decide) ?_
                    obtain ⟨k_189, hk_189⟩ := va_plg hg0.1 eq_26
                    refine va_calll (va_runV (b := g0) (As := [.int j3, .int 16]) (rest := [.int z_186, .ref g0, .int j3, .ref s15_1]) ⟨hx, hb, hml, hown, hts⟩ (v_X3_told l dC dI TT H.size kI kJ kZ K L fl87 hPI g0 hg0 j3 16 hU fS fC1 fF1 fR1 fW lo ld lv lm_1 pa_1 hRVc ll hLL) (cwV 2 hts gX3_back_X3_told rfl rfl rfl (by decide +kernel) ⟨Nat.le_of_ble_eq_true rfl, Nat.le_of_ble_eq_true rfl⟩) ⟨pr_blind, va_recv hK hP (ci := 3) rfl hk_189, (pr_S (ws := va_pl L fl87) (wA := []) (tys := [(kI, .int), (kJ, .long), (kZ, .boolean)]) hP hK vd_nil hst hS (ro_free hS hA)).2⟩ rfl rfl hl.1 rfl (lv_room (Nat.le_of_ble_eq_true rfl)) dX3_back_124 ⟨Nat.le_of_ble_eq_true rfl, Nat.le_of_ble_eq_true rfl⟩) hS (fun q _ h => (ro_free hS hA) q h) (ro_free hS hA) (fun r_190 u t H1 locs ht hvm hw hB hz1 hk1 hS => ?_)
                    have hP := ro_keep hP hk1
                    generalize H1 = H at hP hS ⊢
                    have hq_191 := hw
                    refine lv_l2i hx hb dX3_back_127 rfl ?_
                    refine lv_topi (fun z_192 ez_192 => ?_)
                    have hcs : csT ll (Int32.toNatClampNeg j3) = z_186 := by unfold csT; rw [ofNat_clamp (by omega), ← hq_185, ← ez_186]
                    have htn : tnT ll (Int32.toNatClampNeg j3) = z_192 := by unfold tnT; rw [hcs]; first | (rw [if_pos (by omega), ofNat_clamp (by omega), ← hq_191, ← ez_192]) | (rw [if_neg (by omega), ofNat_clamp (by omega), ← hq_191, ← ez_192])
                    have hFc := pl_free hD hS hA
                    obtain ⟨k_193, hk_193⟩ := va_plg hg0.1 eq_26
                    refine va_calli (va_runV (b := g0) (As := [.int z_186, .int z_192]) (rest := [.int j3, .ref s15_1]) ⟨hx, hb, hml, hown, hts⟩ (v_X3_born l dC dI TT H.size kI kJ kZ K L fl87 hPI g0 hg0 z_186 z_192 hU fS fC1 fF1 fR1 fW lo ld lv lm_1 pa_1 hRVc z1 hZV (bb_room hBB (by omega))) (cwV 2 hts gX3_back_X3_born rfl rfl rfl (by decide +kernel) ⟨Nat.le_of_ble_eq_true rfl, Nat.le_of_ble_eq_true rfl⟩) ⟨pr_blind, va_recv hK hP (ci := 3) rfl hk_193, (pr_S (ws := va_pl L fl87) (wA := va_pl L fl87) (tys := [(kI, .int), (kJ, .long), (kZ, .boolean)]) hP hK (hD.weaken (fun _ _ _ _ => trivial)) hst hS hFc).2⟩ rfl rfl hl.1 rfl (lv_room (Nat.le_of_ble_eq_true rfl)) dX3_back_128 ⟨Nat.le_of_ble_eq_true rfl, Nat.le_of_ble_eq_true rfl⟩) hS (fun q _ h => hFc q h) hFc (fun r_194 u t H1 locs ht hvm hw hB hz1 hk1 hS => ?_)
                    obtain ⟨f_195, hPI, hrel, hP, hD9⟩ := hB
                    rw [ht] at hP
                    have hD := hD9.weaken (fun _ q _ h => hFc q.1 h)
                    obtain ⟨hrelF, hrel⟩ := hrel
                    have eq_196 := (hrelF g0 hg0.1 (by rw [hg0.2]; rfl)).trans eq_26
                    have eq_197 := (hrelF s8_1 fs8_1.1 (by rw [fs8_1.2]; rfl)).trans eq_27
                    have eq_198 := (hrelF s9_1 fs9_1.1 (by rw [fs9_1.2]; rfl)).trans eq_28
                    have eq_199 := (hrelF s10_1 fs10_1.1 (by rw [fs10_1.2]; rfl)).trans eq_29
                    have eq_200 := (hrelF s1_1 fs1_1.1 (by rw [fs1_1.2]; rfl)).trans eg_30
                    have eq_201 := (hrelF s5_1 fs5_1.1 (by rw [fs5_1.2]; rfl)).trans eg_34
                    have eq_202 := (hrelF s15_1 fs15_1.1 (by rw [fs15_1.2]; rfl)).trans eg_36
                    have hfr := FR.tr hfr hrelF (sK_sub (by decide))
                    generalize H1 = H at hP hS ⊢
                    obtain ⟨oB, hLF, hZV, hRV8⟩ := hrel
                    obtain ⟨hLF2, hr2⟩ := hw
                    obtain rfl : Int32.toNatClampNeg r_194 = oB := hLF2.one hLF
                    have eg_203 := hRV8.1.2.1 s2_1 fs2_1
                    have fg_203 := (hPI.a12 fs2_1).of eg_203
                    have eg_204 := hRV8.1.2.2 s3_1 fs3_1
                    have fg_204 := (hPI.a13 fs3_1).of eg_204
                    have eg_205 := hRV8.2.1.1 s4_1 fs4_1
                    have fg_205 := (hPI.a14 fs4_1).of eg_205
                    have eg_206 := hZV s6_1 fs6_1
                    have fg_206 := (hPI.a16 fs6_1).of eg_206
                    obtain ⟨k_207, hk_207⟩ := va_plg fs15_1.1 eq_202
                    have h_207 : vp_in j3 24 := (vp_in_iff.mpr (by constructor <;> omega))
                    have fw_207 := updS (P := fun v => 0 ≤ v.toInt ∧ v.toInt < 6400) (k := Int32.toNatClampNeg j3) (v := r_194) fg_36 (by omega)
                    have hD9 := hD
                    refine va_iast hx hb hK hP hD hS k_207 0 hk_207 rfl h_207 dX3_back_131 (fun H locs hP hD hS => ?_)
                    have hP : va_P (dC, dI) vwCl (va_pl L (va_up f_195 s15_1 (.inl (kI, 24, .inl (upd gM (Int32.toNatClampNeg j3) r_194))))) H := by rw [← va_pls hD9 fs15_1.1 hk_207 _]; exact hP
                    have hD : va_D A (va_pl L (va_up f_195 s15_1 (.inl (kI, 24, .inl (upd gM (Int32.toNatClampNeg j3) r_194))))) := by rw [← va_pls hD9 fs15_1.1 hk_207 _]; exact hD
                    have hPI := hPI.put (e := .inl (kI, 24, .inl (upd gM (Int32.toNatClampNeg j3) r_194))) fs15_1 ⟨_, rfl, fw_207⟩
                    have es_f_208 : va_up f_195 s15_1 (.inl (kI, 24, .inl (upd gM (Int32.toNatClampNeg j3) r_194))) s15_1 = .inl (kI, 24, .inl (upd gM (Int32.toNatClampNeg j3) r_194)) := va_up_self _ _ _
                    have eq_209 := (va_up_ne f_195 (.inl (kI, 24, .inl (upd gM (Int32.toNatClampNeg j3) r_194))) (isr_ne hg0 fs15_1 (by decide))).trans eq_196
                    have eq_210 := (va_up_ne f_195 (.inl (kI, 24, .inl (upd gM (Int32.toNatClampNeg j3) r_194))) (isr_ne fs8_1 fs15_1 (by decide))).trans eq_197
                    have eq_211 := (va_up_ne f_195 (.inl (kI, 24, .inl (upd gM (Int32.toNatClampNeg j3) r_194))) (isr_ne fs9_1 fs15_1 (by decide))).trans eq_198
                    have eq_212 := (va_up_ne f_195 (.inl (kI, 24, .inl (upd gM (Int32.toNatClampNeg j3) r_194))) (isr_ne fs10_1 fs15_1 (by decide))).trans eq_199
                    have eq_213 := (va_up_ne f_195 (.inl (kI, 24, .inl (upd gM (Int32.toNatClampNeg j3) r_194))) (isr_ne fs1_1 fs15_1 (by decide))).trans eq_200
                    have eq_214 := (va_up_ne f_195 (.inl (kI, 24, .inl (upd gM (Int32.toNatClampNeg j3) r_194))) (isr_ne fs5_1 fs15_1 (by decide))).trans eq_201
                    have eq_215 := (va_up_ne f_195 (.inl (kI, 24, .inl (upd gM (Int32.toNatClampNeg j3) r_194))) (isr_ne fs2_1 fs15_1 (by decide))).trans eg_203
                    have eq_216 := (va_up_ne f_195 (.inl (kI, 24, .inl (upd gM (Int32.toNatClampNeg j3) r_194))) (isr_ne fs3_1 fs15_1 (by decide))).trans eg_204
                    have eq_217 := (va_up_ne f_195 (.inl (kI, 24, .inl (upd gM (Int32.toNatClampNeg j3) r_194))) (isr_ne fs4_1 fs15_1 (by decide))).trans eg_205
                    have eq_218 := (va_up_ne f_195 (.inl (kI, 24, .inl (upd gM (Int32.toNatClampNeg j3) r_194))) (isr_ne fs6_1 fs15_1 (by decide))).trans eg_206
                    have hfr := fr_up (S := (sK [11, 12, 13, 14, 15, 16, 17, 25])) (e := .inl (kI, 24, .inl (upd gM (Int32.toNatClampNeg j3) r_194))) hfr fs15_1 (by decide)
                    generalize hg_f_208 : va_up f_195 s15_1 (.inl (kI, 24, .inl (upd gM (Int32.toNatClampNeg j3) r_194))) = f_208 at hP hD hPI es_f_208 eq_209 eq_210 eq_211 eq_212 eq_213 eq_214 eq_215 eq_216 eq_217 eq_218 hfr
                    obtain ⟨i_219, ei_219⟩ : ∃ y : Int32, y = j3 + 1 := ⟨_, rfl⟩
                    refine lv_iinc (v := i_219) (lv' := [(3, .int i_219), (4, .int z_186), (2, .int z_10), (0, .ref g0), (1, .int p0)]) hx hb dX3_back_132 hl (k := 1) rfl (by rw [ei_219]; rfl) (by decide) rfl (fun ls hl => ?_)
                    have ki_219 := inc_toInt ei_219 (by omega)
                    refine lv_goto (tgt := 87) hx hb dX3_back_135 (by decide) ?_
                    exact ih_87 i_219 f_208 _ _ _  (by omega) (by omega) ⟨hfr, ⟨_, _, _, _, _, va_up ps (Int32.toNatClampNeg j3) (Int32.toNatClampNeg r_194), ⟨SV.mk hU fs1_1 fs2_1 fs3_1 eq_213 eq_215 eq_216, ⟨un_row hU fs4_1 eq_217, un_row hU fs5_1 eq_214⟩, ⟨un_row hU fs8_1 eq_210, un_row hU fs9_1 eq_211, un_row hU fs10_1 eq_212⟩, (by rw [eq_209]; rfl), (by rw [eq_209]; rfl)⟩, ZV.mk hU fs6_1 eq_218, MV.mk hU fs15_1 es_f_208, (by rw [ki_219]; exact bb_step hBB hLF bnF_bg (by omega) rfl (clamp_int (by omega))), (by rw [cl_succ (by omega) ki_219]; exact rb_push hRB hLF.1 (fun i hi q => (hmk.2 i hi).1 (by rw [← q]; exact hLF.2.1)) hcs (by show ks_vals (csT ll _) (tnT ll _) = _; rw [hcs, htn]) rfl (fun j q1 q2 => bnF_vl q1 q2) (fun j q1 => bnF_lk q1) (fun o2 j q1 q2 => bnF_out q1 q2)), (by rw [cl_succ (by omega) ki_219]; exact mk_push hmk hLF.2.1 rfl), by omega⟩⟩ hPI hP hD hS (lv_sub hl [0, 2, 3, 4] rfl)
                  · have c_188 := congrArg Int32.toInt c_188
                    refine lv_bipush (v := 13) hx hb dX3_back_117 (by decide) ?_
                    refine lv_goto (tgt := 124) hx hb dX3_back_119 (by decide) ?_
                    obtain ⟨k_220, hk_220⟩ := va_plg hg0.1 eq_26
                    refine va_calll (va_runV (b := g0) (As := [.int j3, .int 13]) (rest := [.int z_186, .ref g0, .int j3, .ref s15_1]) ⟨hx, hb, hml, hown, hts⟩ (v_X3_told l dC dI TT H.size kI kJ kZ K L fl87 hPI g0 hg0 j3 13 hU fS fC1 fF1 fR1 fW lo ld lv lm_1 pa_1 hRVc ll hLL) (cwV 2 hts gX3_back_X3_told rfl rfl rfl (by decide +kernel) ⟨Nat.le_of_ble_eq_true rfl, Nat.le_of_ble_eq_true rfl⟩) ⟨pr_blind, va_recv hK hP (ci := 3) rfl hk_220, (pr_S (ws := va_pl L fl87) (wA := []) (tys := [(kI, .int), (kJ, .long), (kZ, .boolean)]) hP hK vd_nil hst hS (ro_free hS hA)).2⟩ rfl rfl hl.1 rfl (lv_room (Nat.le_of_ble_eq_true rfl)) dX3_back_124 ⟨Nat.le_of_ble_eq_true rfl, Nat.le_of_ble_eq_true rfl⟩) hS (fun q _ h => (ro_free hS hA) q h) (ro_free hS hA) (fun r_221 u t H1 locs ht hvm hw hB hz1 hk1 hS => ?_)
                    have hP := ro_keep hP hk1
                    generalize H1 = H at hP hS ⊢
                    have hq_222 := hw
                    refine lv_l2i hx hb dX3_back_127 rfl ?_
                    refine lv_topi (fun z_223 ez_223 => ?_)
                    have hcs : csT ll (Int32.toNatClampNeg j3) = z_186 := by unfold csT; rw [ofNat_clamp (by omega), ← hq_185, ← ez_186]
                    have htn : tnT ll (Int32.toNatClampNeg j3) = z_223 := by unfold tnT; rw [hcs]; first | (rw [if_pos (by omega), ofNat_clamp (by omega), ← hq_222, ← ez_223]) | (rw [if_neg (by omega), ofNat_clamp (by omega), ← hq_222, ← ez_223])
                    have hFc := pl_free hD hS hA
                    obtain ⟨k_224, hk_224⟩ := va_plg hg0.1 eq_26
                    refine va_calli (va_runV (b := g0) (As := [.int z_186, .int z_223]) (rest := [.int j3, .ref s15_1]) ⟨hx, hb, hml, hown, hts⟩ (v_X3_born l dC dI TT H.size kI kJ kZ K L fl87 hPI g0 hg0 z_186 z_223 hU fS fC1 fF1 fR1 fW lo ld lv lm_1 pa_1 hRVc z1 hZV (bb_room hBB (by omega))) (cwV 2 hts gX3_back_X3_born rfl rfl rfl (by decide +kernel) ⟨Nat.le_of_ble_eq_true rfl, Nat.le_of_ble_eq_true rfl⟩) ⟨pr_blind, va_recv hK hP (ci := 3) rfl hk_224, (pr_S (ws := va_pl L fl87) (wA := va_pl L fl87) (tys := [(kI, .int), (kJ, .long), (kZ, .boolean)]) hP hK (hD.weaken (fun _ _ _ _ => trivial)) hst hS hFc).2⟩ rfl rfl hl.1 rfl (lv_room (Nat.le_of_ble_eq_true rfl)) dX3_back_128 ⟨Nat.le_of_ble_eq_true rfl, Nat.le_of_ble_eq_true rfl⟩) hS (fun q _ h => hFc q h) hFc (fun r_225 u t H1 locs ht hvm hw hB hz1 hk1 hS => ?_)
                    obtain ⟨f_226, hPI, hrel, hP, hD9⟩ := hB
                    rw [ht] at hP
                    have hD := hD9.weaken (fun _ q _ h => hFc q.1 h)
                    obtain ⟨hrelF, hrel⟩ := hrel
                    have eq_227 := (hrelF g0 hg0.1 (by rw [hg0.2]; rfl)).trans eq_26
                    have eq_228 := (hrelF s8_1 fs8_1.1 (by rw [fs8_1.2]; rfl)).trans eq_27
                    have eq_229 := (hrelF s9_1 fs9_1.1 (by rw [fs9_1.2]; rfl)).trans eq_28
                    have eq_230 := (hrelF s10_1 fs10_1.1 (by rw [fs10_1.2]; rfl)).trans eq_29
                    have eq_231 := (hrelF s1_1 fs1_1.1 (by rw [fs1_1.2]; rfl)).trans eg_30
                    have eq_232 := (hrelF s5_1 fs5_1.1 (by rw [fs5_1.2]; rfl)).trans eg_34
                    have eq_233 := (hrelF s15_1 fs15_1.1 (by rw [fs15_1.2]; rfl)).trans eg_36
                    have hfr := FR.tr hfr hrelF (sK_sub (by decide))
                    generalize H1 = H at hP hS ⊢
                    obtain ⟨oB, hLF, hZV, hRV8⟩ := hrel
                    obtain ⟨hLF2, hr2⟩ := hw
                    obtain rfl : Int32.toNatClampNeg r_225 = oB := hLF2.one hLF
                    have eg_234 := hRV8.1.2.1 s2_1 fs2_1
                    have fg_234 := (hPI.a12 fs2_1).of eg_234
                    have eg_235 := hRV8.1.2.2 s3_1 fs3_1
                    have fg_235 := (hPI.a13 fs3_1).of eg_235
                    have eg_236 := hRV8.2.1.1 s4_1 fs4_1
                    have fg_236 := (hPI.a14 fs4_1).of eg_236
                    have eg_237 := hZV s6_1 fs6_1
                    have fg_237 := (hPI.a16 fs6_1).of eg_237
                    obtain ⟨k_238, hk_238⟩ := va_plg fs15_1.1 eq_233
                    have h_238 : vp_in j3 24 := (vp_in_iff.mpr (by constructor <;> omega))
                    have fw_238 := updS (P := fun v => 0 ≤ v.toInt ∧ v.toInt < 6400) (k := Int32.toNatClampNeg j3) (v := r_225) fg_36 (by omega)
                    have hD9 := hD
                    refine va_iast hx hb hK hP hD hS k_238 0 hk_238 rfl h_238 dX3_back_131 (fun H locs hP hD hS => ?_)
                    have hP : va_P (dC, dI) vwCl (va_pl L (va_up f_226 s15_1 (.inl (kI, 24, .inl (upd gM (Int32.toNatClampNeg j3) r_225))))) H := by rw [← va_pls hD9 fs15_1.1 hk_238 _]; exact hP
                    have hD : va_D A (va_pl L (va_up f_226 s15_1 (.inl (kI, 24, .inl (upd gM (Int32.toNatClampNeg j3) r_225))))) := by rw [← va_pls hD9 fs15_1.1 hk_238 _]; exact hD
                    have hPI := hPI.put (e := .inl (kI, 24, .inl (upd gM (Int32.toNatClampNeg j3) r_225))) fs15_1 ⟨_, rfl, fw_238⟩
                    have es_f_239 : va_up f_226 s15_1 (.inl (kI, 24, .inl (upd gM (Int32.toNatClampNeg j3) r_225))) s15_1 = .inl (kI, 24, .inl (upd gM (Int32.toNatClampNeg j3) r_225)) := va_up_self _ _ _
                    have eq_240 := (va_up_ne f_226 (.inl (kI, 24, .inl (upd gM (Int32.toNatClampNeg j3) r_225))) (isr_ne hg0 fs15_1 (by decide))).trans eq_227
                    have eq_241 := (va_up_ne f_226 (.inl (kI, 24, .inl (upd gM (Int32.toNatClampNeg j3) r_225))) (isr_ne fs8_1 fs15_1 (by decide))).trans eq_228
                    have eq_242 := (va_up_ne f_226 (.inl (kI, 24, .inl (upd gM (Int32.toNatClampNeg j3) r_225))) (isr_ne fs9_1 fs15_1 (by decide))).trans eq_229
                    have eq_243 := (va_up_ne f_226 (.inl (kI, 24, .inl (upd gM (Int32.toNatClampNeg j3) r_225))) (isr_ne fs10_1 fs15_1 (by decide))).trans eq_230
                    have eq_244 := (va_up_ne f_226 (.inl (kI, 24, .inl (upd gM (Int32.toNatClampNeg j3) r_225))) (isr_ne fs1_1 fs15_1 (by decide))).trans eq_231
                    have eq_245 := (va_up_ne f_226 (.inl (kI, 24, .inl (upd gM (Int32.toNatClampNeg j3) r_225))) (isr_ne fs5_1 fs15_1 (by decide))).trans eq_232
                    have eq_246 := (va_up_ne f_226 (.inl (kI, 24, .inl (upd gM (Int32.toNatClampNeg j3) r_225))) (isr_ne fs2_1 fs15_1 (by decide))).trans eg_234
                    have eq_247 := (va_up_ne f_226 (.inl (kI, 24, .inl (upd gM (Int32.toNatClampNeg j3) r_225))) (isr_ne fs3_1 fs15_1 (by decide))).trans eg_235
                    have eq_248 := (va_up_ne f_226 (.inl (kI, 24, .inl (upd gM (Int32.toNatClampNeg j3) r_225))) (isr_ne fs4_1 fs15_1 (by decide))).trans eg_236
                    have eq_249 := (va_up_ne f_226 (.inl (kI, 24, .inl (upd gM (Int32.toNatClampNeg j3) r_225))) (isr_ne fs6_1 fs15_1 (by decide))).trans eg_237
                    have hfr := fr_up (S := (sK [11, 12, 13, 14, 15, 16, 17, 25])) (e := .inl (kI, 24, .inl (upd gM (Int32.toNatClampNeg j3) r_225))) hfr fs15_1 (by decide)
                    generalize hg_f_239 : va_up f_226 s15_1 (.inl (kI, 24, .inl (upd gM (Int32.toNatClampNeg j3) r_225))) = f_239 at hP hD hPI es_f_239 eq_240 eq_241 eq_242 eq_243 eq_244 eq_245 eq_246 eq_247 eq_248 eq_249 hfr
                    obtain ⟨i_250, ei_250⟩ : ∃ y : Int32, y = j3 + 1 := ⟨_, rfl⟩
                    refine lv_iinc (v := i_250) (lv' := [(3, .int i_250), (4, .int z_186), (2, .int z_10), (0, .ref g0), (1, .int p0)]) hx hb dX3_back_132 hl (k := 1) rfl (by rw [ei_250]; rfl) (by decide) rfl (fun ls hl => ?_)
                    have ki_250 := inc_toInt ei_250 (by omega)
                    refine lv_goto (tgt := 87) hx hb dX3_back_135 (by decide) ?_
                    exact ih_87 i_250 f_239 _ _ _  (by omega) (by omega) ⟨hfr, ⟨_, _, _, _, _, va_up ps (Int32.toNatClampNeg j3) (Int32.toNatClampNeg r_225), ⟨SV.mk hU fs1_1 fs2_1 fs3_1 eq_244 eq_246 eq_247, ⟨un_row hU fs4_1 eq_248, un_row hU fs5_1 eq_245⟩, ⟨un_row hU fs8_1 eq_241, un_row hU fs9_1 eq_242, un_row hU fs10_1 eq_243⟩, (by rw [eq_240]; rfl), (by rw [eq_240]; rfl)⟩, ZV.mk hU fs6_1 eq_249, MV.mk hU fs15_1 es_f_239, (by rw [ki_250]; exact bb_step hBB hLF bnF_bg (by omega) rfl (clamp_int (by omega))), (by rw [cl_succ (by omega) ki_250]; exact rb_push hRB hLF.1 (fun i hi q => (hmk.2 i hi).1 (by rw [← q]; exact hLF.2.1)) hcs (by show ks_vals (csT ll _) (tnT ll _) = _; rw [hcs, htn]) rfl (fun j q1 q2 => bnF_vl q1 q2) (fun j q1 => bnF_lk q1) (fun o2 j q1 q2 => bnF_out q1 q2)), (by rw [cl_succ (by omega) ki_250]; exact mk_push hmk hLF.2.1 rfl), by omega⟩⟩ hPI hP hD hS (lv_sub hl [0, 2, 3, 4] rfl)
            exact loop_87 25 0 f_14 _ _ _  (by omega) (by omega) ⟨FR.rf, ⟨fC, fF, fR, zM, _, (fun _ => 0), ⟨SV.mk hU fs1_1 fs2_1 fs3_1 eq_16 eq_17 eq_18, ⟨un_row hU fs4_1 eq_19, un_row hU fs5_1 eq_20⟩, ⟨un_row hU fs8_1 eq_21, un_row hU fs9_1 eq_22, un_row hU fs10_1 eq_23⟩, (by rw [eq_15]; rfl), (by rw [eq_15]; rfl)⟩, ZV.mk hU fs6_1 eg_24, MV.mk hU fs15_1 e_25, (by rw [k0_]; exact bb_0 hrS hrF hGA hMK hcz), (by rw [cl_0]; exact rb_0), ⟨fun _ h9 => h9, fun i h9 => absurd h9 (by rw [cl_0]; omega)⟩, by omega⟩⟩ hPI hP hD hS (lv_sub hl [0, 1, 2, 3] rfl)
          · have c_11 := mt Int32.le_iff_toInt_le.mpr c_11
            refine lv_aload_n hx hb dX3_back_40 rfl (lv_at hl 2 rfl) ?_
            refine lv_iload_n hx hb dX3_back_41 rfl (lv_at hl 0 rfl) ?_
            refine lv_iconst (v := (-1)) hx hb dX3_back_42 (by decide) ?_
            obtain ⟨k_251, hk_251⟩ := va_plg hg0.1 e_1
            refine va_calll (va_runV (b := g0) (As := [.int i3, .int (-1)]) (rest := []) ⟨hx, hb, hml, hown, hts⟩ (v_X3_told l dC dI TT H.size kI kJ kZ K L f hPI g0 hg0 i3 (-1) hU fS fC fF fR fW lo ld lv lm_1 pa_1 hRV ll hLL) (cwV 2 hts gX3_back_X3_told rfl rfl rfl (by decide +kernel) ⟨Nat.le_of_ble_eq_true rfl, Nat.le_of_ble_eq_true rfl⟩) ⟨pr_blind, va_recv hK hP (ci := 3) rfl hk_251, (pr_S (ws := va_pl L f) (wA := []) (tys := [(kI, .int), (kJ, .long), (kZ, .boolean)]) hP hK vd_nil hst hS (ro_free hS hA)).2⟩ rfl rfl hl.1 rfl (lv_room (Nat.le_of_ble_eq_true rfl)) dX3_back_43 ⟨Nat.le_of_ble_eq_true rfl, Nat.le_of_ble_eq_true rfl⟩) hS (fun q _ h => (ro_free hS hA) q h) (ro_free hS hA) (fun r_252 u t H1 locs ht hvm hw hB hz1 hk1 hS => ?_)
            have hP := ro_keep hP hk1
            generalize H1 = H at hP hS ⊢
            have hq_253 := hw
            refine lv_ldc2 hx hb hown (hts (.constantLong RX3 142 (2)) (by decide +kernel)) dX3_back_46 ?_
            refine W.lcmp hx hb dX3_back_49 ?_
            refine lv_if_ne (tgt := 75) hx hb dX3_back_50 (by decide) (fun c_254 => ?_) (fun c_254 => ?_)
            · have c_254 := mt (fun h9 => (lg_cmp_eq r_252 2).mpr (Int64.toInt_inj.mp h9)) c_254
              obtain ⟨i_255, ei_255⟩ : ∃ y : Int32, y = i3 + 1 := ⟨_, rfl⟩
              refine lv_iinc (v := i_255) (lv' := [(3, .int i_255), (2, .int z_10), (0, .ref g0), (1, .int p0)]) hx hb dX3_back_75 hl (k := 0) rfl (by rw [ei_255]; rfl) (by decide) rfl (fun ls hl => ?_)
              have ki_255 := inc_toInt ei_255 (by omega)
              refine lv_goto (tgt := 35) hx hb dX3_back_78 (by decide) ?_
              exact ih_35 i_255 f _ _ _  (by omega) (by omega) ⟨rfl, (bad_step hbd (by omega) (fun h9 => by have h8 := h9.1; rw [ofNat_clamp (by omega), ← hq_253] at h8; omega) ki_255)⟩ hPI hP hD hS (lv_sub hl [0, 1, 2, 3] rfl)
            · have c_254 := congrArg Int64.toInt ((lg_cmp_eq r_252 2).mp c_254)
              refine lv_aload_n hx hb dX3_back_53 rfl (lv_at hl 2 rfl) ?_
              refine lv_iload_n hx hb dX3_back_54 rfl (lv_at hl 0 rfl) ?_
              refine lv_bipush (v := 13) hx hb dX3_back_55 (by decide) ?_
              obtain ⟨k_256, hk_256⟩ := va_plg hg0.1 e_1
              refine va_calll (va_runV (b := g0) (As := [.int i3, .int 13]) (rest := []) ⟨hx, hb, hml, hown, hts⟩ (v_X3_told l dC dI TT H.size kI kJ kZ K L f hPI g0 hg0 i3 13 hU fS fC fF fR fW lo ld lv lm_1 pa_1 hRV ll hLL) (cwV 2 hts gX3_back_X3_told rfl rfl rfl (by decide +kernel) ⟨Nat.le_of_ble_eq_true rfl, Nat.le_of_ble_eq_true rfl⟩) ⟨pr_blind, va_recv hK hP (ci := 3) rfl hk_256, (pr_S (ws := va_pl L f) (wA := []) (tys := [(kI, .int), (kJ, .long), (kZ, .boolean)]) hP hK vd_nil hst hS (ro_free hS hA)).2⟩ rfl rfl hl.1 rfl (lv_room (Nat.le_of_ble_eq_true rfl)) dX3_back_57 ⟨Nat.le_of_ble_eq_true rfl, Nat.le_of_ble_eq_true rfl⟩) hS (fun q _ h => (ro_free hS hA) q h) (ro_free hS hA) (fun r_257 u t H1 locs ht hvm hw hB hz1 hk1 hS => ?_)
              have hP := ro_keep hP hk1
              generalize H1 = H at hP hS ⊢
              have hq_258 := hw
              refine lv_l2i hx hb dX3_back_60 rfl ?_
              refine lv_topi (fun z_259 ez_259 => ?_)
              refine lv_i2l (v := Int32.toInt64 z_259) hx hb dX3_back_61 rfl ?_
              have k_z_260 := Int32.toInt_toInt64 z_259
              refine lv_lconst (v := 0) hx hb dX3_back_62 (by decide) ?_
              refine lv_ldc2 hx hb hown (hts (.constantLong RX3 89 (1000)) (by decide +kernel)) dX3_back_63 ?_
              refine va_calli (va_runS (As := [.long (Int32.toInt64 z_259), .long 0, .long 1000]) (rest := []) ⟨hx, hb, hml, hown, hts⟩ (c_X3_in l dC dI TT H.size (Int32.toInt64 z_259) 0 1000) (va_cwS 3 hts gX3_back_X3_in rfl rfl rfl (by decide +kernel) ⟨Nat.le_of_ble_eq_true rfl, Nat.le_of_ble_eq_true rfl⟩) (pr_S (ws := []) (wA := []) (tys := []) vp_nil (hK.sub [] rfl) vd_nil hst hS (ro_free hS hA)) rfl rfl hl.1 rfl (lv_room (Nat.le_of_ble_eq_true rfl)) dX3_back_66 ⟨Nat.le_of_ble_eq_true rfl, Nat.le_of_ble_eq_true rfl⟩) hS (fun q _ h => (ro_free hS hA) q h) (ro_free hS hA) (fun r_261 u t H1 locs ht hvm hw hB hz1 hk1 hS => ?_)
              have hP := ro_keep hP hk1
              generalize H1 = H at hP hS ⊢
              rcases hw with ⟨rfl, hp_262⟩ | ⟨rfl, hp_262⟩
              · refine lv_if_ne (tgt := 75) hx hb dX3_back_69 (by decide) (fun _ => ?_) (fun c9 => absurd c9 (by decide))
                obtain ⟨i_263, ei_263⟩ : ∃ y : Int32, y = i3 + 1 := ⟨_, rfl⟩
                refine lv_iinc (v := i_263) (lv' := [(3, .int i_263), (2, .int z_10), (0, .ref g0), (1, .int p0)]) hx hb dX3_back_75 hl (k := 0) rfl (by rw [ei_263]; rfl) (by decide) rfl (fun ls hl => ?_)
                have ki_263 := inc_toInt ei_263 (by omega)
                refine lv_goto (tgt := 35) hx hb dX3_back_78 (by decide) ?_
                exact ih_35 i_263 f _ _ _  (by omega) (by omega) ⟨rfl, (bad_step hbd (by omega) (fun h9 => h9.2 (by rw [ofNat_clamp (by omega), ← hq_258, ← ez_259]; constructor <;> omega)) ki_263)⟩ hPI hP hD hS (lv_sub hl [0, 1, 2, 3] rfl)
              · refine lv_if_ne (tgt := 75) hx hb dX3_back_69 (by decide) (fun c9 => absurd c9 (by decide)) (fun _ => ?_)
                have hbad : badT ll (Int32.toNatClampNeg i3) := ⟨by rw [ofNat_clamp (by omega), ← hq_253]; omega, by rw [ofNat_clamp (by omega), ← hq_258, ← ez_259]; omega⟩
                have hbl : Int32.toNatClampNeg i3 < nO := by have h7 := clamp_int (i := i3) (by omega); omega
                refine lv_bipush (v := (-18)) hx hb dX3_back_72 (by decide) ?_
                subst eQ
                exact W.iret (v := (-18)) hx hb hr (fun t ht hW => ⟨⟨(-18), (), rfl, (show rs_back ll nO p0 (-18) from ⟨fun h9 => absurd (by omega) h9, fun _ h9 => absurd h9 hne, fun _ _ _ => rfl, fun _ _ h9 => absurd hbad (h9 _ hbl), fun _ _ h9 => absurd hbad (h9 _ hbl)⟩), f, hPI, ⟨hfr, fS, fC, fF, fR, fW, Or.inl ⟨(fun h9 => h9.2.2 _ hbl hbad), rfl, rfl, rfl, rfl, rfl⟩, hRV⟩, by rw [ht]; exact hP, hD⟩, hS.F ht⟩) hS.2.2 dX3_back_74
      exact loop_35 25 0 f _ _ _  (by omega) (by omega) ⟨rfl, (fun j h9 => absurd h9 (by omega))⟩ hPI hP hD hS hl
    · have c_5 := congrArg Int32.toInt c_5
      have hnil : ll = [] := List.eq_nil_of_length_eq_zero (by omega)
      refine lv_bipush (v := (-3)) hx hb dX3_back_16 (by decide) ?_
      subst eQ
      exact W.iret (v := (-3)) hx hb hr (fun t ht hW => ⟨⟨(-3), (), rfl, (show rs_back ll nO p0 (-3) from ⟨fun h9 => absurd (by omega) h9, fun _ _ => rfl, fun _ h9 => absurd hnil h9, fun _ h9 => absurd hnil h9, fun _ h9 => absurd hnil h9⟩), f, hPI, ⟨hfr, fS, fC, fF, fR, fW, Or.inl ⟨(fun h9 => h9.2.1 hnil), rfl, rfl, rfl, rfl, rfl⟩, hRV⟩, by rw [ht]; exact hP, hD⟩, hS.F ht⟩) hS.2.2 dX3_back_18
  · refine lv_if_ne (tgt := 9) hx hb dX3_back_4 (by decide) (fun c9 => absurd c9 (by decide)) (fun _ => ?_)
    refine lv_iconst (v := (-1)) hx hb dX3_back_7 (by decide) ?_
    subst eQ
    exact W.iret (v := (-1)) hx hb hr (fun t ht hW => ⟨⟨(-1), (), rfl, (show rs_back ll nO p0 (-1) from ⟨fun _ => rfl, fun h9 => absurd h9 (by omega), fun h9 => absurd h9 (by omega), fun h9 => absurd h9 (by omega), fun h9 => absurd h9 (by omega)⟩), f, hPI, ⟨hfr, fS, fC, fF, fR, fW, Or.inl ⟨(fun h9 => absurd h9.1 (by omega)), rfl, rfl, rfl, rfl, rfl⟩, hRV⟩, by rw [ht]; exact hP, hD⟩, hS.F ht⟩) hS.2.2 dX3_back_8

