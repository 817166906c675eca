set_option maxRecDepth 20000 in
theorem in_v_X3_tellObject_X3 : ∀ w ∈ u_ws RX3 TX3 23, w ∈ wsX3_tellObject := by decide +kernel
set_option maxRecDepth 100000 in
set_option maxHeartbeats 4000000 in
theorem v_X3_tellObject (l : Launch) (dC : Nat → ClassId) (dI : Nat → Nat → Nat) (TT : Nat × Nat × Nat) (sz : Nat) (kI kJ kZ : ClassId) (K : Nat → Nat) (L : List Nat) (f : Nat → va_E) (hPI : PR kI kJ kZ K L f) (g0 : Nat) (hg0 : isr K L 10 g0) (k0 o0 : Int32) (hk0 : 0 ≤ k0.toInt ∧ k0.toInt < 24) (ho0 : 0 ≤ o0.toInt ∧ o0.toInt < 6400) (hU : UN K L) (fS fC : Nat → Int32) (fF : Nat → Int64) (fR fW lo ld : Nat → Int32) (lv : Nat → Int64) (lm pa : Int32) (hRV : RV kI kJ K L f g0 fS fC fF fR fW lo ld lv lm pa) (lf : List Nat) (hFL : FLr kI K L f g0 lf) (lz : List (Int32 × Int32 × Int64)) (hTS : TSr kI kJ K L f g0 (lz)) : Met l yX3_tellObject wsX3_tellObject ({ frames := 1, cells := 0, slots := 0, locals := 24 } : Room) (va_Pc [.ref g0, .int k0, .int o0] (pr dC dI (va_pl L f) (va_pl L f) [(kI, .int), (kJ, .long), (kZ, .boolean)] sz TT)) (va_Qv (fun (u : Unit) => True) (fun (_ : Unit) t => ∃ f2 : Nat → va_E, PR kI kJ kZ K L f2 ∧ (FR (sK [10, 22, 23, 24]) K L f f2 ∧ (KQ f f2 g0 ∧ TSr kI kJ K L f2 g0 (lz ++ lob (fC (Int32.toNatClampNeg o0)) (lff (nbr (-4) lf) (r_vl fC fF (Int32.toNatClampNeg o0)) (r_lk fC fF (Int32.toNatClampNeg o0)) (r_rw fC fR fW (Int32.toNatClampNeg o0)) k0) k0))) ∧ va_P (dC, dI) vwCl (va_pl L f2) t.heap ∧ va_D (va_A (va_pl L f) sz) (va_pl L f2)) (va_A (va_pl L f) sz)) 0 0 (va_A (va_pl L f) sz) := by
  refine Met.ofW (cc := cX3_tellObject) (maxL := 7) (ret := none) (by decide) rfl ?_
  intro p e s m args below meth c s₁ B hml hv
  obtain ⟨rfl, hsz, hP, hK, hD0, hst⟩ := hv
  have hx := B.exec
  have hb := B.bytes
  have hr := B.returns
  have hts := atoms_spec (ws := wsX3_tellObject) B.pre
  have hown : s.vm.findClass RX3 = some m.cls := findClass_of_methodNamed B.named
  have hlocks := B.notSynchronized
  have iX3_ := in_v_X3_tellObject_X3
  subst hsz
  have hD := hD0.self (sz := s.heap.size)
  generalize hAe : va_A (va_pl L f) s.heap.size = A at hD hst ⊢
  have hA : ∀ q : Nat, s.heap.size ≤ q → A q := fun q h => by rw [← hAe]; exact Or.inr h
  have hS : va_S A s.heap s.heap [] := va_S.rf
  have hl := lv_entry ([.ref g0, .int k0, .int o0]) (n := 7) (Nat.le_of_ble_eq_true rfl)
  rw [lg_entry_eq]
  generalize (lg_sl ([.ref g0, .int k0, .int o0]) ++ List.replicate (7 - (lg_sl ([.ref g0, .int k0, .int o0])).length) Slot.unset).toArray = ls at hl ⊢
  have hl : lv_has ls 7 [(0, .ref g0), (1, .int k0), (2, .int o0)] := hl
  have km1_ : Int32.toInt (-1) = -1 := by decide
  have k0_ : Int32.toInt 0 = 0 := by decide
  have k9_ : Int32.toInt 9 = 9 := by decide
  have k17_ : Int32.toInt 17 = 17 := by decide
  have k100_ : Int32.toInt 100 = 100 := by decide
  have klm1_ : Int64.toInt (-1) = -1 := by decide
  have kl0_ : Int64.toInt 0 = 0 := by decide
  have hfr : FR (sK [10, 22, 23, 24]) K L f f := FR.rf
  have cl_0 : Int32.toNatClampNeg 0 = 0 := by decide
  refine W_nameQ (fun Q0 eQ => ?_)
  (refine hPI.a10E hg0 ?_; intro s1_1 s2_1 s3_1 s4_1 s5_1 s6_1 s7_1 pa_1 lm_1 s8_1 s9_1 s10_1 fm_1 s11_1 nm_1 s12_1 s13_1 s14_1 rm_1 s15_1 s16_1 s17_1 s18_1 e_1 fs1_1 fs2_1 fs3_1 fs4_1 fs5_1 fs6_1 fs7_1 flm_1 fs8_1 fs9_1 fs10_1 ffm_1 fs11_1 fnm_1 fs12_1 fs13_1 fs14_1 frm_1 fs15_1 fs16_1 fs17_1 fs18_1)
  obtain ⟨k_1, hk_1⟩ := va_plg hg0.1 e_1
  have eg11 := hRV.1.1 s1_1 fs1_1
  have fg11 := (hPI.a11 fs1_1).of eg11
  have eg12 := hRV.1.2.1 s2_1 fs2_1
  have fg12 := (hPI.a12 fs2_1).of eg12
  have eg13 := hRV.1.2.2 s3_1 fs3_1
  have fg13 := (hPI.a13 fs3_1).of eg13
  have eg14 := hRV.2.1.1 s4_1 fs4_1
  have fg14 := (hPI.a14 fs4_1).of eg14
  have eg15 := hRV.2.1.2 s5_1 fs5_1
  have fg15 := (hPI.a15 fs5_1).of eg15
  have eg18 := hRV.2.2.1.1 s8_1 fs8_1
  have fg18 := (hPI.a18 fs8_1).of eg18
  have eg19 := hRV.2.2.1.2.1 s9_1 fs9_1
  have fg19 := (hPI.a19 fs9_1).of eg19
  have eg20 := hRV.2.2.1.2.2 s10_1 fs10_1
  have fg20 := (hPI.a20 fs10_1).of eg20
  obtain rfl : lm_1 = lm := (show cI (f g0) 8 = _ from by rw [e_1]; rfl).symm.trans hRV.2.2.2.1
  obtain rfl : pa_1 = pa := (show cI (f g0) 7 = _ from by rw [e_1]; rfl).symm.trans hRV.2.2.2.2
  have hKQ := KQ.rf (f := f) (g := g0)
  refine lv_aload_n hx hb dX3_tellObject_0 rfl (lv_at hl 0 rfl) ?_
  refine lv_iload_n hx hb dX3_tellObject_1 rfl (lv_at hl 1 rfl) ?_
  refine lv_iconst (v := (-1)) hx hb dX3_tellObject_2 (by decide) ?_
  refine lv_aload_n hx hb dX3_tellObject_3 rfl (lv_at hl 0 rfl) ?_
  obtain ⟨k_2, hk_2⟩ := va_plg hg0.1 e_1
  refine va_get (D := (dC, dI)) (ci := 3) (v := .ref s2_1) (C := RX3) (T := TX3) (N := 23) hx hb hts iX3_ hown hK hP k_2 hk_2 rfl 1 (by decide) (hts (.fieldLink RX3 13 "FieldLeavesModel" "classOf" "[I") (by decide +kernel)) (fun _ h9 => h9) rfl dX3_tellObject_4 ?_
  refine lv_iload_n hx hb dX3_tellObject_7 rfl (lv_at hl 2 rfl) ?_
  obtain ⟨k_3, hk_3⟩ := va_plg fs2_1.1 eg12
  have h_3 : vp_in o0 6400 := (vp_in_iff.mpr (by constructor <;> omega))
  refine va_iald hx hb hK hP k_3 0 hk_3 rfl h_3 dX3_tellObject_8 ?_
  refine lv_topi (fun z_3 ez_3 => ?_)
  have hdez_3 := congrArg Int32.toInt ez_3
  refine lv_i2l (v := Int32.toInt64 z_3) hx hb dX3_tellObject_9 rfl ?_
  have k_z_4 := Int32.toInt_toInt64 z_3
  have hFc := pl_free hD hS hA
  obtain ⟨k_5, hk_5⟩ := va_plg hg0.1 e_1
  refine va_callv (va_runV (b := g0) (As := [.int k0, .int (-1), .long (Int32.toInt64 z_3)]) (rest := []) ⟨hx, hb, hml, hown, hts⟩ (v_X3_tell l dC dI TT s.heap.size kI kJ kZ K L f hPI g0 hg0 k0 (-1) (Int32.toInt64 z_3) hU (lz) hTS (by constructor <;> omega) (by omega)) (cwV 3 hts gX3_tellObject_X3_tell rfl rfl rfl (by decide +kernel) ⟨Nat.le_of_ble_eq_true rfl, Nat.le_of_ble_eq_true rfl⟩) ⟨pr_blind, va_recv hK hP (ci := 3) rfl hk_5, (pr_S (ws := va_pl L f) (wA := va_pl L f) (tys := [(kI, .int), (kJ, .long), (kZ, .boolean)]) hP hK (hD.weaken (fun _ _ _ _ => trivial)) hst hS hFc).2⟩ rfl rfl hl.1 rfl (lv_room (Nat.le_of_ble_eq_true rfl)) dX3_tellObject_10 ⟨Nat.le_of_ble_eq_true rfl, Nat.le_of_ble_eq_true rfl⟩) hS (fun q _ h => hFc q h) hFc (fun u t H1 locs ht hvm hw hB hz1 hk1 hS => ?_)
  obtain ⟨f_7, hPI, hrel, hP, hD9⟩ := hB
  rw [ht] at hP
  have hD := hD9.weaken (fun _ q _ h => hFc q.1 h)
  obtain ⟨hrelF, hrel⟩ := hrel
  have eq_8 := (hrelF s1_1 fs1_1.1 (by rw [fs1_1.2]; rfl)).trans eg11
  have eq_9 := (hrelF s2_1 fs2_1.1 (by rw [fs2_1.2]; rfl)).trans eg12
  have eq_10 := (hrelF s3_1 fs3_1.1 (by rw [fs3_1.2]; rfl)).trans eg13
  have eq_11 := (hrelF s4_1 fs4_1.1 (by rw [fs4_1.2]; rfl)).trans eg14
  have eq_12 := (hrelF s5_1 fs5_1.1 (by rw [fs5_1.2]; rfl)).trans eg15
  have eq_13 := (hrelF s8_1 fs8_1.1 (by rw [fs8_1.2]; rfl)).trans eg18
  have eq_14 := (hrelF s9_1 fs9_1.1 (by rw [fs9_1.2]; rfl)).trans eg19
  have eq_15 := (hrelF s10_1 fs10_1.1 (by rw [fs10_1.2]; rfl)).trans eg20
  have hfr := FR.tr hfr hrelF (sK_sub (by decide))
  generalize H1 = H at hP hS ⊢
  obtain ⟨hKQ1, hTS⟩ := hrel
  have hKQ := hKQ.tr hKQ1
  refine lv_iconst (v := 0) hx hb dX3_tellObject_13 (by decide) ?_
  refine lv_istore_n (lv' := [(3, .int 0), (0, .ref g0), (1, .int k0), (2, .int o0)]) hx hb dX3_tellObject_14 rfl hl (by decide) rfl (fun ls hl => ?_)
  have hfrE15 := hfr
  have loop_15 : ∀ (n : Nat) (i3 : Int32)   (fl : Nat → va_E) (H : Heap) (locs : List Loc) (ls : Array Slot), (0 ≤ i3.toInt ∧ i3.toInt ≤ 17) → (17 - i3.toInt).toNat < n → (FR (sK [10, 22, 23, 24]) K L f_7 fl ∧ (KQ f fl g0 ∧ TSr kI kJ K L fl g0 (lz ++ (k0, -1, (fC (Int32.toNatClampNeg o0)).toInt64) :: lfs (lff (nbr (-4) lf) (r_vl fC fF (Int32.toNatClampNeg o0)) (r_lk fC fF (Int32.toNatClampNeg o0)) (r_rw fC fR fW (Int32.toNatClampNeg o0)) k0) (Int32.toNatClampNeg i3)))) → PR kI kJ kZ K L fl → va_P (dC, dI) vwCl (va_pl L fl) H → va_D A (va_pl L fl) → va_S A s.heap H locs → lv_has ls 7 [(3, .int i3), (0, .ref g0), (1, .int k0), (2, .int o0)] → W p l e (headSpec wsX3_tellObject ({ frames := 1, cells := 0, slots := 0, locals := 24 } : Room)).room s m (([.ref g0, .int k0, .int o0] : List Value).toArray) below meth c H locs 0 0 Q0 (F0 m 15 ls []) := by
    intro n
    induction n with
    | zero => intro i3 fl H locs ls  _ h9; exact absurd h9 (Nat.not_lt_zero _)
    | succ n ih_15 =>
      intro i3 fl H locs ls  hI hM hFN hPI hP hD hS hl
      obtain ⟨hfr, hFN⟩ := hFN
      have eq_16 := (hfr s1_1 fs1_1.1 (by rw [fs1_1.2]; rfl)).trans eq_8
      have eq_17 := (hfr s2_1 fs2_1.1 (by rw [fs2_1.2]; rfl)).trans eq_9
      have eq_18 := (hfr s3_1 fs3_1.1 (by rw [fs3_1.2]; rfl)).trans eq_10
      have eq_19 := (hfr s4_1 fs4_1.1 (by rw [fs4_1.2]; rfl)).trans eq_11
      have eq_20 := (hfr s5_1 fs5_1.1 (by rw [fs5_1.2]; rfl)).trans eq_12
      have eq_21 := (hfr s8_1 fs8_1.1 (by rw [fs8_1.2]; rfl)).trans eq_13
      have eq_22 := (hfr s9_1 fs9_1.1 (by rw [fs9_1.2]; rfl)).trans eq_14
      have eq_23 := (hfr s10_1 fs10_1.1 (by rw [fs10_1.2]; rfl)).trans eq_15
      obtain ⟨hKQ, hTS⟩ := hFN
      refine lv_iload_n hx hb dX3_tellObject_15 rfl (lv_at hl 0 rfl) ?_
      refine lv_bipush (v := 17) hx hb dX3_tellObject_16 (by decide) ?_
      refine lv_icmp_ge (tgt := 180) hx hb dX3_tellObject_18 (by decide) (fun c_24 => ?_) (fun c_24 => ?_)
      · have c_24 := Int32.le_iff_toInt_le.mp c_24
        subst eQ
        exact W.vret hx hb hr (fun t ht hW => ⟨⟨(), rfl, trivial, fl, hPI, ⟨(FR.tr hfrE15 hfr (fun _ h => h)), hKQ, (by rw [← lob_fin (k := k0) (c := fC (Int32.toNatClampNeg o0)) (F := (lff (nbr (-4) lf) (r_vl fC fF (Int32.toNatClampNeg o0)) (r_lk fC fF (Int32.toNatClampNeg o0)) (r_rw fC fR fW (Int32.toNatClampNeg o0)) k0)) (i := i3) (by omega) (by omega)]; exact hTS)⟩, by rw [ht]; exact hP, hD⟩, hS.F ht⟩) hS.2.2 dX3_tellObject_180
      · have c_24 := mt Int32.le_iff_toInt_le.mpr c_24
        refine lv_aload_n hx hb dX3_tellObject_21 rfl (lv_at hl 1 rfl) ?_
        (refine hPI.a10E hg0 ?_; intro s1_25 s2_25 s3_25 s4_25 s5_25 s6_25 s7_25 pa_25 lm_25 s8_25 s9_25 s10_25 fm_25 s11_25 nm_25 s12_25 s13_25 s14_25 rm_25 s15_25 s16_25 s17_25 s18_25 e_25 fs1_25 fs2_25 fs3_25 fs4_25 fs5_25 fs6_25 fs7_25 flm_25 fs8_25 fs9_25 fs10_25 ffm_25 fs11_25 fnm_25 fs12_25 fs13_25 fs14_25 frm_25 fs15_25 fs16_25 fs17_25 fs18_25)
        obtain ⟨k_25, hk_25⟩ := va_plg hg0.1 e_25
        obtain rfl : s1_1 = s1_25 := hU _ _ fs1_1.1 fs1_25.1 (fs1_1.2.trans fs1_25.2.symm)
        obtain rfl : s2_1 = s2_25 := hU _ _ fs2_1.1 fs2_25.1 (fs2_1.2.trans fs2_25.2.symm)
        obtain rfl : s3_1 = s3_25 := hU _ _ fs3_1.1 fs3_25.1 (fs3_1.2.trans fs3_25.2.symm)
        obtain rfl : s4_1 = s4_25 := hU _ _ fs4_1.1 fs4_25.1 (fs4_1.2.trans fs4_25.2.symm)
        obtain rfl : s5_1 = s5_25 := hU _ _ fs5_1.1 fs5_25.1 (fs5_1.2.trans fs5_25.2.symm)
        obtain rfl : s6_1 = s6_25 := hU _ _ fs6_1.1 fs6_25.1 (fs6_1.2.trans fs6_25.2.symm)
        obtain rfl : s7_1 = s7_25 := hU _ _ fs7_1.1 fs7_25.1 (fs7_1.2.trans fs7_25.2.symm)
        obtain rfl : s8_1 = s8_25 := hU _ _ fs8_1.1 fs8_25.1 (fs8_1.2.trans fs8_25.2.symm)
        obtain rfl : s9_1 = s9_25 := hU _ _ fs9_1.1 fs9_25.1 (fs9_1.2.trans fs9_25.2.symm)
        obtain rfl : s10_1 = s10_25 := hU _ _ fs10_1.1 fs10_25.1 (fs10_1.2.trans fs10_25.2.symm)
        obtain rfl : s11_1 = s11_25 := hU _ _ fs11_1.1 fs11_25.1 (fs11_1.2.trans fs11_25.2.symm)
        obtain rfl : s12_1 = s12_25 := hU _ _ fs12_1.1 fs12_25.1 (fs12_1.2.trans fs12_25.2.symm)
        obtain rfl : s13_1 = s13_25 := hU _ _ fs13_1.1 fs13_25.1 (fs13_1.2.trans fs13_25.2.symm)
        obtain rfl : s14_1 = s14_25 := hU _ _ fs14_1.1 fs14_25.1 (fs14_1.2.trans fs14_25.2.symm)
        obtain rfl : s15_1 = s15_25 := hU _ _ fs15_1.1 fs15_25.1 (fs15_1.2.trans fs15_25.2.symm)
        obtain rfl : s16_1 = s16_25 := hU _ _ fs16_1.1 fs16_25.1 (fs16_1.2.trans fs16_25.2.symm)
        obtain rfl : s17_1 = s17_25 := hU _ _ fs17_1.1 fs17_25.1 (fs17_1.2.trans fs17_25.2.symm)
        obtain rfl : s18_1 = s18_25 := hU _ _ fs18_1.1 fs18_25.1 (fs18_1.2.trans fs18_25.2.symm)
        refine va_get (D := (dC, dI)) (ci := 3) (v := .ref s2_1) (C := RX3) (T := TX3) (N := 23) hx hb hts iX3_ hown hK hP k_25 hk_25 rfl 1 (by decide) (hts (.fieldLink RX3 13 "FieldLeavesModel" "classOf" "[I") (by decide +kernel)) (fun _ h9 => h9) rfl dX3_tellObject_22 ?_
        refine lv_iload_n hx hb dX3_tellObject_25 rfl (lv_at hl 3 rfl) ?_
        obtain ⟨k_26, hk_26⟩ := va_plg fs2_1.1 eq_17
        have h_26 : vp_in o0 6400 := (vp_in_iff.mpr (by constructor <;> omega))
        refine va_iald hx hb hK hP k_26 0 hk_26 rfl h_26 dX3_tellObject_26 ?_
        refine lv_topi (fun z_26 ez_26 => ?_)
        obtain rfl : z_3 = z_26 := ez_3.trans ez_26.symm
        refine lv_iload_n hx hb dX3_tellObject_27 rfl (lv_at hl 0 rfl) ?_
        refine va_calli (va_runS (As := [.int z_3, .int i3]) (rest := []) ⟨hx, hb, hml, hown, hts⟩ (q_X3_has l dC dI TT H.size z_3 i3) (va_cwS 2 hts gX3_tellObject_X3_has rfl rfl rfl (by decide +kernel) ⟨Nat.le_of_ble_eq_true rfl, Nat.le_of_ble_eq_true rfl⟩) (pr_S (ws := []) (wA := []) (tys := []) vp_nil (hK.sub [] rfl) vd_nil hst hS (ro_free hS hA)) rfl rfl hl.1 rfl (lv_room (Nat.le_of_ble_eq_true rfl)) dX3_tellObject_28 ⟨Nat.le_of_ble_eq_true rfl, Nat.le_of_ble_eq_true rfl⟩) hS (fun q _ h => (ro_free hS hA) q h) (ro_free hS hA) (fun r_27 u t H1 locs ht hvm hw hB hz1 hk1 hS => ?_)
        have hP := ro_keep hP hk1
        generalize H1 = H at hP hS ⊢
        rcases hw with ⟨rfl, hp_28⟩ | ⟨rfl, hp_28⟩
        · refine lv_if_ne (tgt := 37) hx hb dX3_tellObject_31 (by decide) (fun _ => ?_) (fun c9 => absurd c9 (by decide))
          refine lv_aload_n hx hb dX3_tellObject_37 rfl (lv_at hl 1 rfl) ?_
          obtain ⟨k_29, hk_29⟩ := va_plg hg0.1 e_25
          refine va_get (D := (dC, dI)) (ci := 3) (v := .ref s3_1) (C := RX3) (T := TX3) (N := 23) hx hb hts iX3_ hown hK hP k_29 hk_29 rfl 2 (by decide) (hts (.fieldLink RX3 17 "FieldLeavesModel" "field" "[J") (by decide +kernel)) (fun _ h9 => h9) rfl dX3_tellObject_38 ?_
          refine lv_bipush (v := 17) hx hb dX3_tellObject_41 (by decide) ?_
          refine lv_iload_n hx hb dX3_tellObject_43 rfl (lv_at hl 3 rfl) ?_
          refine lv_imul hx hb dX3_tellObject_44 ?_
          refine lv_topi (fun z_30 ez_30 => ?_)
          have kz_30 := mul17 ez_30 (by omega) (by omega)
          refine lv_iload_n hx hb dX3_tellObject_45 rfl (lv_at hl 0 rfl) ?_
          refine lv_iadd hx hb dX3_tellObject_46 ?_
          refine lv_topi (fun z_31 ez_31 => ?_)
          have kz_31 := add_toInt ez_31 (by omega) (by omega)
          obtain ⟨k_32, hk_32⟩ := va_plg fs3_1.1 eq_18
          have h_32 : vp_in z_31 108800 := (vp_in_iff.mpr (by constructor <;> omega))
          refine va_lald hx hb hK hP k_32 1 hk_32 rfl h_32 dX3_tellObject_47 ?_
          refine lv_topl (fun z_32 ez_32 => ?_)
          have er_33 := ez_32
          rw [idx_clamp (o := o0) (f := i3) (w := z_31) (by omega) (by omega) (by omega)] at er_33
          refine lv_lstore (lv' := [(4, .long z_32), (3, .int i3), (0, .ref g0), (1, .int k0), (2, .int o0)]) hx hb dX3_tellObject_48 hl (by decide) rfl (fun ls hl => ?_)
          refine lv_iload_n hx hb dX3_tellObject_50 rfl (lv_at hl 1 rfl) ?_
          refine lv_bipush (v := 9) hx hb dX3_tellObject_51 (by decide) ?_
          refine lv_icmp_ne (tgt := 126) hx hb dX3_tellObject_53 (by decide) (fun c_34 => ?_) (fun c_34 => ?_)
          · have c_34 := mt Int32.toInt_inj.mp c_34
            refine lv_iload_n hx hb dX3_tellObject_126 rfl (lv_at hl 1 rfl) ?_
            refine va_calli (va_runS (As := [.int i3]) (rest := []) ⟨hx, hb, hml, hown, hts⟩ (c_X3_isLink l dC dI TT H.size i3) (va_cwS 1 hts gX3_tellObject_X3_isLink rfl rfl rfl (by decide +kernel) ⟨Nat.le_of_ble_eq_true rfl, Nat.le_of_ble_eq_true rfl⟩) (pr_S (ws := []) (wA := []) (tys := []) vp_nil (hK.sub [] rfl) vd_nil hst hS (ro_free hS hA)) rfl rfl hl.1 rfl (lv_room (Nat.le_of_ble_eq_true rfl)) dX3_tellObject_127 ⟨Nat.le_of_ble_eq_true rfl, Nat.le_of_ble_eq_true rfl⟩) hS (fun q _ h => (ro_free hS hA) q h) (ro_free hS hA) (fun r_35 u t H1 locs ht hvm hw hB hz1 hk1 hS => ?_)
            have hP := ro_keep hP hk1
            generalize H1 = H at hP hS ⊢
            rcases hw with ⟨rfl, hp_36⟩ | ⟨rfl, hp_36⟩
            · refine lv_if_eq (tgt := 159) hx hb dX3_tellObject_130 (by decide) (fun c9 => absurd c9 (by decide)) (fun _ => ?_)
              refine lv_lload hx hb dX3_tellObject_133 (lv_at hl 0 rfl) ?_
              refine lv_ldc2 hx hb hown (hts (.constantLong RX3 82 (-1)) (by decide +kernel)) dX3_tellObject_135 ?_
              refine W.lcmp hx hb dX3_tellObject_138 ?_
              refine lv_if_eq (tgt := 174) hx hb dX3_tellObject_139 (by decide) (fun c_37 => ?_) (fun c_37 => ?_)
              · have c_37 := congrArg Int64.toInt ((lg_cmp_eq z_32 (-1)).mp c_37)
                obtain ⟨i_38, ei_38⟩ : ∃ y : Int32, y = i3 + 1 := ⟨_, rfl⟩
                refine lv_iinc (v := i_38) (lv' := [(3, .int i_38), (4, .long z_32), (0, .ref g0), (1, .int k0), (2, .int o0)]) hx hb dX3_tellObject_174 hl (k := 1) rfl (by rw [ei_38]; rfl) (by decide) rfl (fun ls hl => ?_)
                have ki_38 := inc_toInt ei_38 (by omega)
                refine lv_goto (tgt := 15) hx hb dX3_tellObject_177 (by decide) ?_
                exact ih_15 i_38 fl _ _ _  (by omega) (by omega) ⟨hfr, ⟨hKQ, (by rw [lfs_step (by omega) ki_38, lff_lz (by omega) er_33 (by omega), List.append_nil]; exact hTS)⟩⟩ hPI hP hD hS (lv_sub hl [0, 2, 3, 4] rfl)
              · have c_37 := mt (fun h9 => (lg_cmp_eq z_32 (-1)).mpr (Int64.toInt_inj.mp h9)) c_37
                refine lv_aload_n hx hb dX3_tellObject_142 rfl (lv_at hl 2 rfl) ?_
                refine lv_iload_n hx hb dX3_tellObject_143 rfl (lv_at hl 3 rfl) ?_
                refine lv_iload_n hx hb dX3_tellObject_144 rfl (lv_at hl 1 rfl) ?_
                refine lv_aload_n hx hb dX3_tellObject_145 rfl (lv_at hl 2 rfl) ?_
                refine lv_lload hx hb dX3_tellObject_146 (lv_at hl 0 rfl) ?_
                have fz9 := rgF.at fg13 (o := o0) (f := i3) (w := z_31) (by constructor <;> omega) (by omega) (by omega)
                rw [← ez_32] at fz9
                refine lv_l2i hx hb dX3_tellObject_148 rfl ?_
                refine lv_topi (fun z_39 ez_39 => ?_)
                have kz_39 := l2i_sm ez_39 (by omega) (by omega)
                have hq_t_40 : z_32.toInt.toNat = Int32.toNatClampNeg z_39 := by show _ = z_39.toInt.toNat; rw [kz_39]
                obtain ⟨k_41, hk_41⟩ := va_plg hg0.1 e_25
                refine va_calli (va_runV (b := g0) (As := [.int z_39]) (rest := [.int i3, .int k0, .ref g0]) ⟨hx, hb, hml, hown, hts⟩ (v_X3_numberOf l dC dI TT H.size kI kJ kZ K L fl hPI g0 hg0 z_39 (by constructor <;> omega) hU lf (hFL.kq (FR.tr hfrE15 hfr (fun _ h => h)) rfl hKQ)) (cwV 1 hts gX3_tellObject_X3_numberOf rfl rfl rfl (by decide +kernel) ⟨Nat.le_of_ble_eq_true rfl, Nat.le_of_ble_eq_true rfl⟩) ⟨pr_blind, va_recv hK hP (ci := 3) rfl hk_41, (pr_S (ws := va_pl L fl) (wA := []) (tys := [(kI, .int), (kJ, .long), (kZ, .boolean)]) hP hK vd_nil hst hS (ro_free hS hA)).2⟩ rfl rfl hl.1 rfl (lv_room (Nat.le_of_ble_eq_true rfl)) dX3_tellObject_149 ⟨Nat.le_of_ble_eq_true rfl, Nat.le_of_ble_eq_true rfl⟩) hS (fun q _ h => (ro_free hS hA) q h) (ro_free hS hA) (fun r_42 u t H1 locs ht hvm hw hB hz1 hk1 hS => ?_)
                have hP := ro_keep hP hk1
                generalize H1 = H at hP hS ⊢
                have hq_43 := hw
                refine lv_i2l (v := Int32.toInt64 r_42) hx hb dX3_tellObject_152 rfl ?_
                have k_z_44 := Int32.toInt_toInt64 r_42
                have hFc := pl_free hD hS hA
                obtain ⟨k_45, hk_45⟩ := va_plg hg0.1 e_25
                refine va_callv (va_runV (b := g0) (As := [.int k0, .int i3, .long (Int32.toInt64 r_42)]) (rest := []) ⟨hx, hb, hml, hown, hts⟩ (v_X3_tell l dC dI TT H.size kI kJ kZ K L fl hPI g0 hg0 k0 i3 (Int32.toInt64 r_42) hU (lz ++ (k0, -1, (fC (Int32.toNatClampNeg o0)).toInt64) :: lfs (lff (nbr (-4) lf) (r_vl fC fF (Int32.toNatClampNeg o0)) (r_lk fC fF (Int32.toNatClampNeg o0)) (r_rw fC fR fW (Int32.toNatClampNeg o0)) k0) (Int32.toNatClampNeg i3)) hTS (by constructor <;> omega) (by omega)) (cwV 3 hts gX3_tellObject_X3_tell rfl rfl rfl (by decide +kernel) ⟨Nat.le_of_ble_eq_true rfl, Nat.le_of_ble_eq_true rfl⟩) ⟨pr_blind, va_recv hK hP (ci := 3) rfl hk_45, (pr_S (ws := va_pl L fl) (wA := va_pl L fl) (tys := [(kI, .int), (kJ, .long), (kZ, .boolean)]) hP hK (hD.weaken (fun _ _ _ _ => trivial)) hst hS hFc).2⟩ rfl rfl hl.1 rfl (lv_room (Nat.le_of_ble_eq_true rfl)) dX3_tellObject_153 ⟨Nat.le_of_ble_eq_true rfl, Nat.le_of_ble_eq_true rfl⟩) hS (fun q _ h => hFc q h) hFc (fun u t H1 locs ht hvm hw hB hz1 hk1 hS => ?_)
                obtain ⟨f_47, hPI, hrel, hP, hD9⟩ := hB
                rw [ht] at hP
                have hD := hD9.weaken (fun _ q _ h => hFc q.1 h)
                obtain ⟨hrelF, hrel⟩ := hrel
                have eq_48 := (hrelF s1_1 fs1_1.1 (by rw [fs1_1.2]; rfl)).trans eq_16
                have eq_49 := (hrelF s2_1 fs2_1.1 (by rw [fs2_1.2]; rfl)).trans eq_17
                have eq_50 := (hrelF s3_1 fs3_1.1 (by rw [fs3_1.2]; rfl)).trans eq_18
                have eq_51 := (hrelF s4_1 fs4_1.1 (by rw [fs4_1.2]; rfl)).trans eq_19
                have eq_52 := (hrelF s5_1 fs5_1.1 (by rw [fs5_1.2]; rfl)).trans eq_20
                have eq_53 := (hrelF s8_1 fs8_1.1 (by rw [fs8_1.2]; rfl)).trans eq_21
                have eq_54 := (hrelF s9_1 fs9_1.1 (by rw [fs9_1.2]; rfl)).trans eq_22
                have eq_55 := (hrelF s10_1 fs10_1.1 (by rw [fs10_1.2]; rfl)).trans eq_23
                have hfr := FR.tr hfr hrelF (sK_sub (by decide))
                generalize H1 = H at hP hS ⊢
                obtain ⟨hKQ1, hTS⟩ := hrel
                have hKQ := hKQ.tr hKQ1
                refine lv_goto (tgt := 174) hx hb dX3_tellObject_156 (by decide) ?_
                obtain ⟨i_56, ei_56⟩ : ∃ y : Int32, y = i3 + 1 := ⟨_, rfl⟩
                refine lv_iinc (v := i_56) (lv' := [(3, .int i_56), (4, .long z_32), (0, .ref g0), (1, .int k0), (2, .int o0)]) hx hb dX3_tellObject_174 hl (k := 1) rfl (by rw [ei_56]; rfl) (by decide) rfl (fun ls hl => ?_)
                have ki_56 := inc_toInt ei_56 (by omega)
                refine lv_goto (tgt := 15) hx hb dX3_tellObject_177 (by decide) ?_
                exact ih_15 i_56 f_47 _ _ _  (by omega) (by omega) ⟨hfr, ⟨hKQ, (by rw [lfs_step (by omega) ki_56, lff_ln (by omega) (hs_iff.mpr (by rw [← ez_3]; exact hp_28)) er_33 (by omega), hq_t_40, ← hq_43]; exact hTS)⟩⟩ hPI hP hD hS (lv_sub hl [0, 2, 3, 4] rfl)
            · refine lv_if_eq (tgt := 159) hx hb dX3_tellObject_130 (by decide) (fun _ => ?_) (fun c9 => absurd c9 (by decide))
              refine lv_lload hx hb dX3_tellObject_159 (lv_at hl 0 rfl) ?_
              refine lv_lconst (v := 0) hx hb dX3_tellObject_161 (by decide) ?_
              refine W.lcmp hx hb dX3_tellObject_162 ?_
              refine lv_if_eq (tgt := 174) hx hb dX3_tellObject_163 (by decide) (fun c_57 => ?_) (fun c_57 => ?_)
              · have c_57 := congrArg Int64.toInt ((lg_cmp_eq z_32 0).mp c_57)
                obtain ⟨i_58, ei_58⟩ : ∃ y : Int32, y = i3 + 1 := ⟨_, rfl⟩
                refine lv_iinc (v := i_58) (lv' := [(3, .int i_58), (4, .long z_32), (0, .ref g0), (1, .int k0), (2, .int o0)]) hx hb dX3_tellObject_174 hl (k := 1) rfl (by rw [ei_58]; rfl) (by decide) rfl (fun ls hl => ?_)
                have ki_58 := inc_toInt ei_58 (by omega)
                refine lv_goto (tgt := 15) hx hb dX3_tellObject_177 (by decide) ?_
                exact ih_15 i_58 fl _ _ _  (by omega) (by omega) ⟨hfr, ⟨hKQ, (by rw [lfs_step (by omega) ki_58, lff_vz (by omega) (hs_iff.mpr (by rw [← ez_3]; exact hp_28)) er_33 (Int64.toInt_inj.mp (by omega)), List.append_nil]; exact hTS)⟩⟩ hPI hP hD hS (lv_sub hl [0, 2, 3, 4] rfl)
              · have c_57 := mt (fun h9 => (lg_cmp_eq z_32 0).mpr (Int64.toInt_inj.mp h9)) c_57
                refine lv_aload_n hx hb dX3_tellObject_166 rfl (lv_at hl 2 rfl) ?_
                refine lv_iload_n hx hb dX3_tellObject_167 rfl (lv_at hl 3 rfl) ?_
                refine lv_iload_n hx hb dX3_tellObject_168 rfl (lv_at hl 1 rfl) ?_
                refine lv_lload hx hb dX3_tellObject_169 (lv_at hl 0 rfl) ?_
                have hFc := pl_free hD hS hA
                obtain ⟨k_59, hk_59⟩ := va_plg hg0.1 e_25
                refine va_callv (va_runV (b := g0) (As := [.int k0, .int i3, .long z_32]) (rest := []) ⟨hx, hb, hml, hown, hts⟩ (v_X3_tell l dC dI TT H.size kI kJ kZ K L fl hPI g0 hg0 k0 i3 z_32 hU (lz ++ (k0, -1, (fC (Int32.toNatClampNeg o0)).toInt64) :: lfs (lff (nbr (-4) lf) (r_vl fC fF (Int32.toNatClampNeg o0)) (r_lk fC fF (Int32.toNatClampNeg o0)) (r_rw fC fR fW (Int32.toNatClampNeg o0)) k0) (Int32.toNatClampNeg i3)) hTS (by constructor <;> omega) (by omega)) (cwV 3 hts gX3_tellObject_X3_tell rfl rfl rfl (by decide +kernel) ⟨Nat.le_of_ble_eq_true rfl, Nat.le_of_ble_eq_true rfl⟩) ⟨pr_blind, va_recv hK hP (ci := 3) rfl hk_59, (pr_S (ws := va_pl L fl) (wA := va_pl L fl) (tys := [(kI, .int), (kJ, .long), (kZ, .boolean)]) hP hK (hD.weaken (fun _ _ _ _ => trivial)) hst hS hFc).2⟩ rfl rfl hl.1 rfl (lv_room (Nat.le_of_ble_eq_true rfl)) dX3_tellObject_171 ⟨Nat.le_of_ble_eq_true rfl, Nat.le_of_ble_eq_true rfl⟩) hS (fun q _ h => hFc q h) hFc (fun u t H1 locs ht hvm hw hB hz1 hk1 hS => ?_)
                obtain ⟨f_61, hPI, hrel, hP, hD9⟩ := hB
                rw [ht] at hP
                have hD := hD9.weaken (fun _ q _ h => hFc q.1 h)
                obtain ⟨hrelF, hrel⟩ := hrel
                have eq_62 := (hrelF s1_1 fs1_1.1 (by rw [fs1_1.2]; rfl)).trans eq_16
                have eq_63 := (hrelF s2_1 fs2_1.1 (by rw [fs2_1.2]; rfl)).trans eq_17
                have eq_64 := (hrelF s3_1 fs3_1.1 (by rw [fs3_1.2]; rfl)).trans eq_18
                have eq_65 := (hrelF s4_1 fs4_1.1 (by rw [fs4_1.2]; rfl)).trans eq_19
                have eq_66 := (hrelF s5_1 fs5_1.1 (by rw [fs5_1.2]; rfl)).trans eq_20
                have eq_67 := (hrelF s8_1 fs8_1.1 (by rw [fs8_1.2]; rfl)).trans eq_21
                have eq_68 := (hrelF s9_1 fs9_1.1 (by rw [fs9_1.2]; rfl)).trans eq_22
                have eq_69 := (hrelF s10_1 fs10_1.1 (by rw [fs10_1.2]; rfl)).trans eq_23
                have hfr := FR.tr hfr hrelF (sK_sub (by decide))
                generalize H1 = H at hP hS ⊢
                obtain ⟨hKQ1, hTS⟩ := hrel
                have hKQ := hKQ.tr hKQ1
                obtain ⟨i_70, ei_70⟩ : ∃ y : Int32, y = i3 + 1 := ⟨_, rfl⟩
                refine lv_iinc (v := i_70) (lv' := [(3, .int i_70), (4, .long z_32), (0, .ref g0), (1, .int k0), (2, .int o0)]) hx hb dX3_tellObject_174 hl (k := 1) rfl (by rw [ei_70]; rfl) (by decide) rfl (fun ls hl => ?_)
                have ki_70 := inc_toInt ei_70 (by omega)
                refine lv_goto (tgt := 15) hx hb dX3_tellObject_177 (by decide) ?_
                exact ih_15 i_70 f_61 _ _ _  (by omega) (by omega) ⟨hfr, ⟨hKQ, (by rw [lfs_step (by omega) ki_70, lff_vn (by omega) (hs_iff.mpr (by rw [← ez_3]; exact hp_28)) er_33 (mt (congrArg Int64.toInt) (by omega))]; exact hTS)⟩⟩ hPI hP hD hS (lv_sub hl [0, 2, 3, 4] rfl)
          · have c_34 := congrArg Int32.toInt c_34
            refine lv_aload_n hx hb dX3_tellObject_56 rfl (lv_at hl 2 rfl) ?_
            obtain ⟨k_71, hk_71⟩ := va_plg hg0.1 e_25
            refine va_get (D := (dC, dI)) (ci := 3) (v := .ref s4_1) (C := RX3) (T := TX3) (N := 23) hx hb hts iX3_ hown hK hP k_71 hk_71 rfl 3 (by decide) (hts (.fieldLink RX3 21 "FieldLeavesModel" "rowSize" "[I") (by decide +kernel)) (fun _ h9 => h9) rfl dX3_tellObject_57 ?_
            refine lv_iload_n hx hb dX3_tellObject_60 rfl (lv_at hl 4 rfl) ?_
            obtain ⟨k_72, hk_72⟩ := va_plg fs4_1.1 eq_19
            have h_72 : vp_in o0 6400 := (vp_in_iff.mpr (by constructor <;> omega))
            refine va_iald hx hb hK hP k_72 0 hk_72 rfl h_72 dX3_tellObject_61 ?_
            refine lv_topi (fun z_72 ez_72 => ?_)
            have fz_72 := fg14 _ (vp_lt h_72)
            rw [← ez_72] at fz_72
            have hdez_72 := congrArg Int32.toInt ez_72
            refine lv_iconst (v := (-1)) hx hb dX3_tellObject_62 (by decide) ?_
            refine lv_icmp_eq (tgt := 174) hx hb dX3_tellObject_63 (by decide) (fun c_73 => ?_) (fun c_73 => ?_)
            · have c_73 := congrArg Int32.toInt c_73
              obtain ⟨i_74, ei_74⟩ : ∃ y : Int32, y = i3 + 1 := ⟨_, rfl⟩
              refine lv_iinc (v := i_74) (lv' := [(3, .int i_74), (4, .long z_32), (0, .ref g0), (1, .int k0), (2, .int o0)]) hx hb dX3_tellObject_174 hl (k := 1) rfl (by rw [ei_74]; rfl) (by decide) rfl (fun ls hl => ?_)
              have ki_74 := inc_toInt ei_74 (by omega)
              refine lv_goto (tgt := 15) hx hb dX3_tellObject_177 (by decide) ?_
              exact ih_15 i_74 fl _ _ _  (by omega) (by omega) ⟨hfr, ⟨hKQ, (by rw [lfs_step (by omega) ki_74, lff_rz (by omega) (by rw [← ez_72]; omega), List.append_nil]; exact hTS)⟩⟩ hPI hP hD hS (lv_sub hl [0, 2, 3, 4] rfl)
            · have c_73 := mt Int32.toInt_inj.mp c_73
              refine lv_aload_n hx hb dX3_tellObject_66 rfl (lv_at hl 2 rfl) ?_
              refine lv_iload_n hx hb dX3_tellObject_67 rfl (lv_at hl 3 rfl) ?_
              refine lv_bipush (v := 9) hx hb dX3_tellObject_68 (by decide) ?_
              refine lv_aload_n hx hb dX3_tellObject_70 rfl (lv_at hl 2 rfl) ?_
              obtain ⟨k_75, hk_75⟩ := va_plg hg0.1 e_25
              refine va_get (D := (dC, dI)) (ci := 3) (v := .ref s4_1) (C := RX3) (T := TX3) (N := 23) hx hb hts iX3_ hown hK hP k_75 hk_75 rfl 3 (by decide) (hts (.fieldLink RX3 21 "FieldLeavesModel" "rowSize" "[I") (by decide +kernel)) (fun _ h9 => h9) rfl dX3_tellObject_71 ?_
              refine lv_iload_n hx hb dX3_tellObject_74 rfl (lv_at hl 4 rfl) ?_
              obtain ⟨k_76, hk_76⟩ := va_plg fs4_1.1 eq_19
              have h_76 : vp_in o0 6400 := (vp_in_iff.mpr (by constructor <;> omega))
              refine va_iald hx hb hK hP k_76 0 hk_76 rfl h_76 dX3_tellObject_75 ?_
              refine lv_topi (fun z_76 ez_76 => ?_)
              obtain rfl : z_72 = z_76 := ez_72.trans ez_76.symm
              refine lv_i2l (v := Int32.toInt64 z_72) hx hb dX3_tellObject_76 rfl ?_
              have k_z_77 := Int32.toInt_toInt64 z_72
              have hFc := pl_free hD hS hA
              obtain ⟨k_78, hk_78⟩ := va_plg hg0.1 e_25
              refine va_callv (va_runV (b := g0) (As := [.int k0, .int 9, .long (Int32.toInt64 z_72)]) (rest := []) ⟨hx, hb, hml, hown, hts⟩ (v_X3_tell l dC dI TT H.size kI kJ kZ K L fl hPI g0 hg0 k0 9 (Int32.toInt64 z_72) hU (lz ++ (k0, -1, (fC (Int32.toNatClampNeg o0)).toInt64) :: lfs (lff (nbr (-4) lf) (r_vl fC fF (Int32.toNatClampNeg o0)) (r_lk fC fF (Int32.toNatClampNeg o0)) (r_rw fC fR fW (Int32.toNatClampNeg o0)) k0) (Int32.toNatClampNeg i3)) hTS (by constructor <;> omega) (by omega)) (cwV 3 hts gX3_tellObject_X3_tell rfl rfl rfl (by decide +kernel) ⟨Nat.le_of_ble_eq_true rfl, Nat.le_of_ble_eq_true rfl⟩) ⟨pr_blind, va_recv hK hP (ci := 3) rfl hk_78, (pr_S (ws := va_pl L fl) (wA := va_pl L fl) (tys := [(kI, .int), (kJ, .long), (kZ, .boolean)]) hP hK (hD.weaken (fun _ _ _ _ => trivial)) hst hS hFc).2⟩ rfl rfl hl.1 rfl (lv_room (Nat.le_of_ble_eq_true rfl)) dX3_tellObject_77 ⟨Nat.le_of_ble_eq_true rfl, Nat.le_of_ble_eq_true rfl⟩) hS (fun q _ h => hFc q h) hFc (fun u t H1 locs ht hvm hw hB hz1 hk1 hS => ?_)
              obtain ⟨f_80, hPI, hrel, hP, hD9⟩ := hB
              rw [ht] at hP
              have hD := hD9.weaken (fun _ q _ h => hFc q.1 h)
              obtain ⟨hrelF, hrel⟩ := hrel
              have eq_81 := (hrelF s1_1 fs1_1.1 (by rw [fs1_1.2]; rfl)).trans eq_16
              have eq_82 := (hrelF s2_1 fs2_1.1 (by rw [fs2_1.2]; rfl)).trans eq_17
              have eq_83 := (hrelF s3_1 fs3_1.1 (by rw [fs3_1.2]; rfl)).trans eq_18
              have eq_84 := (hrelF s4_1 fs4_1.1 (by rw [fs4_1.2]; rfl)).trans eq_19
              have eq_85 := (hrelF s5_1 fs5_1.1 (by rw [fs5_1.2]; rfl)).trans eq_20
              have eq_86 := (hrelF s8_1 fs8_1.1 (by rw [fs8_1.2]; rfl)).trans eq_21
              have eq_87 := (hrelF s9_1 fs9_1.1 (by rw [fs9_1.2]; rfl)).trans eq_22
              have eq_88 := (hrelF s10_1 fs10_1.1 (by rw [fs10_1.2]; rfl)).trans eq_23
              have hfr := FR.tr hfr hrelF (sK_sub (by decide))
              generalize H1 = H at hP hS ⊢
              obtain ⟨hKQ1, hTS⟩ := hrel
              have hKQ := hKQ.tr hKQ1
              refine lv_iconst (v := 0) hx hb dX3_tellObject_80 (by decide) ?_
              refine lv_istore (lv' := [(6, .int 0), (4, .long z_32), (3, .int i3), (0, .ref g0), (1, .int k0), (2, .int o0)]) hx hb dX3_tellObject_81 hl (by decide) rfl (fun ls hl => ?_)
              have hfrE83 := hfr
              have loop_83 : ∀ (n : Nat) (i6 : Int32)   (fl83 : Nat → va_E) (H : Heap) (locs : List Loc) (ls : Array Slot), (0 ≤ i6.toInt ∧ i6.toInt ≤ z_72.toInt ∧ i6.toInt ≤ 20) → (20 - i6.toInt).toNat < n → (FR (sK [10, 22, 23, 24]) K L f_80 fl83 ∧ (KQ f fl83 g0 ∧ TSr kI kJ K L fl83 g0 ((lz ++ (k0, -1, (fC (Int32.toNatClampNeg o0)).toInt64) :: lfs (lff (nbr (-4) lf) (r_vl fC fF (Int32.toNatClampNeg o0)) (r_lk fC fF (Int32.toNatClampNeg o0)) (r_rw fC fR fW (Int32.toNatClampNeg o0)) k0) (Int32.toNatClampNeg i3)) ++ rowLp k0 z_72.toInt.toNat (fun i => fW (20 * (Int32.toNatClampNeg o0) + i)) (Int32.toNatClampNeg i6)))) → PR kI kJ kZ K L fl83 → va_P (dC, dI) vwCl (va_pl L fl83) H → va_D A (va_pl L fl83) → va_S A s.heap H locs → lv_has ls 7 [(6, .int i6), (4, .long z_32), (3, .int i3), (0, .ref g0), (1, .int k0), (2, .int o0)] → W p l e (headSpec wsX3_tellObject ({ frames := 1, cells := 0, slots := 0, locals := 24 } : Room)).room s m (([.ref g0, .int k0, .int o0] : List Value).toArray) below meth c H locs 0 0 Q0 (F0 m 83 ls []) := by
                intro n
                induction n with
                | zero => intro i6 fl83 H locs ls  _ h9; exact absurd h9 (Nat.not_lt_zero _)
                | succ n ih_83 =>
                  intro i6 fl83 H locs ls  hI hM hFN hPI hP hD hS hl
                  obtain ⟨hfr, hFN⟩ := hFN
                  have eq_89 := (hfr s1_1 fs1_1.1 (by rw [fs1_1.2]; rfl)).trans eq_81
                  have eq_90 := (hfr s2_1 fs2_1.1 (by rw [fs2_1.2]; rfl)).trans eq_82
                  have eq_91 := (hfr s3_1 fs3_1.1 (by rw [fs3_1.2]; rfl)).trans eq_83
                  have eq_92 := (hfr s4_1 fs4_1.1 (by rw [fs4_1.2]; rfl)).trans eq_84
                  have eq_93 := (hfr s5_1 fs5_1.1 (by rw [fs5_1.2]; rfl)).trans eq_85
                  have eq_94 := (hfr s8_1 fs8_1.1 (by rw [fs8_1.2]; rfl)).trans eq_86
                  have eq_95 := (hfr s9_1 fs9_1.1 (by rw [fs9_1.2]; rfl)).trans eq_87
                  have eq_96 := (hfr s10_1 fs10_1.1 (by rw [fs10_1.2]; rfl)).trans eq_88
                  obtain ⟨hKQ, hTS⟩ := hFN
                  refine lv_iload hx hb dX3_tellObject_83 (lv_at hl 0 rfl) ?_
                  refine lv_aload_n hx hb dX3_tellObject_85 rfl (lv_at hl 3 rfl) ?_
                  (refine hPI.a10E hg0 ?_; intro s1_97 s2_97 s3_97 s4_97 s5_97 s6_97 s7_97 pa_97 lm_97 s8_97 s9_97 s10_97 fm_97 s11_97 nm_97 s12_97 s13_97 s14_97 rm_97 s15_97 s16_97 s17_97 s18_97 e_97 fs1_97 fs2_97 fs3_97 fs4_97 fs5_97 fs6_97 fs7_97 flm_97 fs8_97 fs9_97 fs10_97 ffm_97 fs11_97 fnm_97 fs12_97 fs13_97 fs14_97 frm_97 fs15_97 fs16_97 fs17_97 fs18_97)
                  obtain ⟨k_97, hk_97⟩ := va_plg hg0.1 e_97
                  obtain rfl : s1_1 = s1_97 := hU _ _ fs1_1.1 fs1_97.1 (fs1_1.2.trans fs1_97.2.symm)
                  obtain rfl : s2_1 = s2_97 := hU _ _ fs2_1.1 fs2_97.1 (fs2_1.2.trans fs2_97.2.symm)
                  obtain rfl : s3_1 = s3_97 := hU _ _ fs3_1.1 fs3_97.1 (fs3_1.2.trans fs3_97.2.symm)
                  obtain rfl : s4_1 = s4_97 := hU _ _ fs4_1.1 fs4_97.1 (fs4_1.2.trans fs4_97.2.symm)
                  obtain rfl : s5_1 = s5_97 := hU _ _ fs5_1.1 fs5_97.1 (fs5_1.2.trans fs5_97.2.symm)
                  obtain rfl : s6_1 = s6_97 := hU _ _ fs6_1.1 fs6_97.1 (fs6_1.2.trans fs6_97.2.symm)
                  obtain rfl : s7_1 = s7_97 := hU _ _ fs7_1.1 fs7_97.1 (fs7_1.2.trans fs7_97.2.symm)
                  obtain rfl : s8_1 = s8_97 := hU _ _ fs8_1.1 fs8_97.1 (fs8_1.2.trans fs8_97.2.symm)
                  obtain rfl : s9_1 = s9_97 := hU _ _ fs9_1.1 fs9_97.1 (fs9_1.2.trans fs9_97.2.symm)
                  obtain rfl : s10_1 = s10_97 := hU _ _ fs10_1.1 fs10_97.1 (fs10_1.2.trans fs10_97.2.symm)
                  obtain rfl : s11_1 = s11_97 := hU _ _ fs11_1.1 fs11_97.1 (fs11_1.2.trans fs11_97.2.symm)
                  obtain rfl : s12_1 = s12_97 := hU _ _ fs12_1.1 fs12_97.1 (fs12_1.2.trans fs12_97.2.symm)
                  obtain rfl : s13_1 = s13_97 := hU _ _ fs13_1.1 fs13_97.1 (fs13_1.2.trans fs13_97.2.symm)
                  obtain rfl : s14_1 = s14_97 := hU _ _ fs14_1.1 fs14_97.1 (fs14_1.2.trans fs14_97.2.symm)
                  obtain rfl : s15_1 = s15_97 := hU _ _ fs15_1.1 fs15_97.1 (fs15_1.2.trans fs15_97.2.symm)
                  obtain rfl : s16_1 = s16_97 := hU _ _ fs16_1.1 fs16_97.1 (fs16_1.2.trans fs16_97.2.symm)
                  obtain rfl : s17_1 = s17_97 := hU _ _ fs17_1.1 fs17_97.1 (fs17_1.2.trans fs17_97.2.symm)
                  obtain rfl : s18_1 = s18_97 := hU _ _ fs18_1.1 fs18_97.1 (fs18_1.2.trans fs18_97.2.symm)
                  refine va_get (D := (dC, dI)) (ci := 3) (v := .ref s4_1) (C := RX3) (T := TX3) (N := 23) hx hb hts iX3_ hown hK hP k_97 hk_97 rfl 3 (by decide) (hts (.fieldLink RX3 21 "FieldLeavesModel" "rowSize" "[I") (by decide +kernel)) (fun _ h9 => h9) rfl dX3_tellObject_86 ?_
                  refine lv_iload_n hx hb dX3_tellObject_89 rfl (lv_at hl 5 rfl) ?_
                  obtain ⟨k_98, hk_98⟩ := va_plg fs4_1.1 eq_92
                  have h_98 : vp_in o0 6400 := (vp_in_iff.mpr (by constructor <;> omega))
                  refine va_iald hx hb hK hP k_98 0 hk_98 rfl h_98 dX3_tellObject_90 ?_
                  refine lv_topi (fun z_98 ez_98 => ?_)
                  obtain rfl : z_72 = z_98 := ez_72.trans ez_98.symm
                  refine lv_icmp_ge (tgt := 123) hx hb dX3_tellObject_91 (by decide) (fun c_99 => ?_) (fun c_99 => ?_)
                  · have c_99 := Int32.le_iff_toInt_le.mp c_99
                    refine lv_goto (tgt := 174) hx hb dX3_tellObject_123 (by decide) ?_
                    obtain ⟨i_100, ei_100⟩ : ∃ y : Int32, y = i3 + 1 := ⟨_, rfl⟩
                    refine lv_iinc (v := i_100) (lv' := [(3, .int i_100), (6, .int i6), (4, .long z_32), (0, .ref g0), (1, .int k0), (2, .int o0)]) hx hb dX3_tellObject_174 hl (k := 2) rfl (by rw [ei_100]; rfl) (by decide) rfl (fun ls hl => ?_)
                    have ki_100 := inc_toInt ei_100 (by omega)
                    refine lv_goto (tgt := 15) hx hb dX3_tellObject_177 (by decide) ?_
                    exact ih_15 i_100 fl83 _ _ _  (by omega) (by omega) ⟨(FR.tr hfrE83 hfr (fun _ h => h)), ⟨hKQ, (by rw [lfs_step (by omega) ki_100, lff_rn (by omega) (hs_iff.mpr (by rw [← ez_3]; exact hp_28)) (by rw [← ez_72]; omega), ← ez_72]; have h8 := row_fin (k := k0) (m := z_72.toInt.toNat) (g := (fun i => fW (20 * (Int32.toNatClampNeg o0) + i))) (i := i6) (by omega) (by omega); rw [← h8]; exact hTS)⟩⟩ hPI hP hD hS (lv_sub hl [0, 3, 4, 5] rfl)
                  · have c_99 := mt Int32.le_iff_toInt_le.mpr c_99
                    refine lv_aload_n hx hb dX3_tellObject_94 rfl (lv_at hl 3 rfl) ?_
                    refine lv_iload_n hx hb dX3_tellObject_95 rfl (lv_at hl 4 rfl) ?_
                    refine lv_bipush (v := 100) hx hb dX3_tellObject_96 (by decide) ?_
                    refine lv_iload hx hb dX3_tellObject_98 (lv_at hl 0 rfl) ?_
                    refine lv_iadd hx hb dX3_tellObject_100 ?_
                    refine lv_topi (fun z_101 ez_101 => ?_)
                    have kz_101 := add_toInt ez_101 (by omega) (by omega)
                    refine lv_aload_n hx hb dX3_tellObject_101 rfl (lv_at hl 3 rfl) ?_
                    obtain ⟨k_102, hk_102⟩ := va_plg hg0.1 e_97
                    refine va_get (D := (dC, dI)) (ci := 3) (v := .ref s5_1) (C := RX3) (T := TX3) (N := 23) hx hb hts iX3_ hown hK hP k_102 hk_102 rfl 4 (by decide) (hts (.fieldLink RX3 25 "FieldLeavesModel" "rows" "[I") (by decide +kernel)) (fun _ h9 => h9) rfl dX3_tellObject_102 ?_
                    refine lv_bipush (v := 20) hx hb dX3_tellObject_105 (by decide) ?_
                    refine lv_iload_n hx hb dX3_tellObject_107 rfl (lv_at hl 5 rfl) ?_
                    refine lv_imul hx hb dX3_tellObject_108 ?_
                    refine lv_topi (fun z_103 ez_103 => ?_)
                    have kz_103 := mul20 ez_103 (by omega) (by omega)
                    refine lv_iload hx hb dX3_tellObject_109 (lv_at hl 0 rfl) ?_
                    refine lv_iadd hx hb dX3_tellObject_111 ?_
                    refine lv_topi (fun z_104 ez_104 => ?_)
                    have kz_104 := add_toInt ez_104 (by omega) (by omega)
                    obtain ⟨k_105, hk_105⟩ := va_plg fs5_1.1 eq_93
                    have h_105 : vp_in z_104 128000 := (vp_in_iff.mpr (by constructor <;> omega))
                    refine va_iald hx hb hK hP k_105 0 hk_105 rfl h_105 dX3_tellObject_112 ?_
                    refine lv_topi (fun z_105 ez_105 => ?_)
                    have er_106 := ez_105
                    rw [idx20 (o := o0) (f := i6) (w := z_104) (by omega) (by omega) (by omega)] at er_106
                    have hder_106 := congrArg Int32.toInt er_106
                    refine lv_i2l (v := Int32.toInt64 z_105) hx hb dX3_tellObject_113 rfl ?_
                    have k_z_107 := Int32.toInt_toInt64 z_105
                    have hFc := pl_free hD hS hA
                    obtain ⟨k_108, hk_108⟩ := va_plg hg0.1 e_97
                    refine va_callv (va_runV (b := g0) (As := [.int k0, .int z_101, .long (Int32.toInt64 z_105)]) (rest := []) ⟨hx, hb, hml, hown, hts⟩ (v_X3_tell l dC dI TT H.size kI kJ kZ K L fl83 hPI g0 hg0 k0 z_101 (Int32.toInt64 z_105) hU ((lz ++ (k0, -1, (fC (Int32.toNatClampNeg o0)).toInt64) :: lfs (lff (nbr (-4) lf) (r_vl fC fF (Int32.toNatClampNeg o0)) (r_lk fC fF (Int32.toNatClampNeg o0)) (r_rw fC fR fW (Int32.toNatClampNeg o0)) k0) (Int32.toNatClampNeg i3)) ++ rowLp k0 z_72.toInt.toNat (fun i => fW (20 * (Int32.toNatClampNeg o0) + i)) (Int32.toNatClampNeg i6)) hTS (by constructor <;> omega) (by omega)) (cwV 3 hts gX3_tellObject_X3_tell rfl rfl rfl (by decide +kernel) ⟨Nat.le_of_ble_eq_true rfl, Nat.le_of_ble_eq_true rfl⟩) ⟨pr_blind, va_recv hK hP (ci := 3) rfl hk_108, (pr_S (ws := va_pl L fl83) (wA := va_pl L fl83) (tys := [(kI, .int), (kJ, .long), (kZ, .boolean)]) hP hK (hD.weaken (fun _ _ _ _ => trivial)) hst hS hFc).2⟩ rfl rfl hl.1 rfl (lv_room (Nat.le_of_ble_eq_true rfl)) dX3_tellObject_114 ⟨Nat.le_of_ble_eq_true rfl, Nat.le_of_ble_eq_true rfl⟩) hS (fun q _ h => hFc q h) hFc (fun u t H1 locs ht hvm hw hB hz1 hk1 hS => ?_)
                    obtain ⟨f_110, hPI, hrel, hP, hD9⟩ := hB
                    rw [ht] at hP
                    have hD := hD9.weaken (fun _ q _ h => hFc q.1 h)
                    obtain ⟨hrelF, hrel⟩ := hrel
                    have eq_111 := (hrelF s1_1 fs1_1.1 (by rw [fs1_1.2]; rfl)).trans eq_89
                    have eq_112 := (hrelF s2_1 fs2_1.1 (by rw [fs2_1.2]; rfl)).trans eq_90
                    have eq_113 := (hrelF s3_1 fs3_1.1 (by rw [fs3_1.2]; rfl)).trans eq_91
                    have eq_114 := (hrelF s4_1 fs4_1.1 (by rw [fs4_1.2]; rfl)).trans eq_92
                    have eq_115 := (hrelF s5_1 fs5_1.1 (by rw [fs5_1.2]; rfl)).trans eq_93
                    have eq_116 := (hrelF s8_1 fs8_1.1 (by rw [fs8_1.2]; rfl)).trans eq_94
                    have eq_117 := (hrelF s9_1 fs9_1.1 (by rw [fs9_1.2]; rfl)).trans eq_95
                    have eq_118 := (hrelF s10_1 fs10_1.1 (by rw [fs10_1.2]; rfl)).trans eq_96
                    have hfr := FR.tr hfr hrelF (sK_sub (by decide))
                    generalize H1 = H at hP hS ⊢
                    obtain ⟨hKQ1, hTS⟩ := hrel
                    have hKQ := hKQ.tr hKQ1
                    obtain ⟨i_119, ei_119⟩ : ∃ y : Int32, y = i6 + 1 := ⟨_, rfl⟩
                    refine lv_iinc (v := i_119) (lv' := [(6, .int i_119), (4, .long z_32), (3, .int i3), (0, .ref g0), (1, .int k0), (2, .int o0)]) hx hb dX3_tellObject_117 hl (k := 0) rfl (by rw [ei_119]; rfl) (by decide) rfl (fun ls hl => ?_)
                    have ki_119 := inc_toInt ei_119 (by omega)
                    refine lv_goto (tgt := 83) hx hb dX3_tellObject_120 (by decide) ?_
                    exact ih_83 i_119 f_110 _ _ _  (by omega) (by omega) ⟨hfr, ⟨hKQ, (by rw [row_step (g := (fun i => fW (20 * (Int32.toNatClampNeg o0) + i))) (i := i6) (d := z_101) (v := z_105) (by omega) ez_101 er_106 ki_119]; exact hTS)⟩⟩ hPI hP hD hS (lv_sub hl [0, 1, 2, 3, 4, 5] rfl)
              exact loop_83 21 0 f_80 _ _ _  (by omega) (by omega) ⟨FR.rf, ⟨hKQ, (by rw [cl_0, row_0, show (Int32.ofNat z_72.toInt.toNat) = z_72 from ofNat_clamp (i := z_72) (by omega)]; exact hTS)⟩⟩ hPI hP hD hS hl
        · refine lv_if_ne (tgt := 37) hx hb dX3_tellObject_31 (by decide) (fun c9 => absurd c9 (by decide)) (fun _ => ?_)
          refine lv_goto (tgt := 174) hx hb dX3_tellObject_34 (by decide) ?_
          obtain ⟨i_120, ei_120⟩ : ∃ y : Int32, y = i3 + 1 := ⟨_, rfl⟩
          refine lv_iinc (v := i_120) (lv' := [(3, .int i_120), (0, .ref g0), (1, .int k0), (2, .int o0)]) hx hb dX3_tellObject_174 hl (k := 0) rfl (by rw [ei_120]; rfl) (by decide) rfl (fun ls hl => ?_)
          have ki_120 := inc_toInt ei_120 (by omega)
          refine lv_goto (tgt := 15) hx hb dX3_tellObject_177 (by decide) ?_
          exact ih_15 i_120 fl _ _ _  (by omega) (by omega) ⟨hfr, ⟨hKQ, (by rw [lfs_step (by omega) ki_120, lff_no (by omega) (mt hs_iff.mp (by rw [← ez_3]; exact hp_28)), List.append_nil]; exact hTS)⟩⟩ hPI hP hD hS (lv_sub hl [0, 1, 2, 3] rfl)
  exact loop_15 18 0 f_7 _ _ _  (by omega) (by omega) ⟨FR.rf, ⟨hKQ, (by rw [cl_0, ← ez_3]; exact hTS)⟩⟩ hPI hP hD hS hl

