set_option maxRecDepth 20000 in
theorem in_g_X3_look_X3 : ∀ w ∈ u_ws RX3 TX3 23, w ∈ wsX3_lookWhatIsHeld := by decide +kernel
set_option maxRecDepth 100000 in
set_option maxHeartbeats 4000000 in
theorem g_X3_look (l : Launch) (dC : Nat → ClassId) (dI : Nat → Nat → Nat) (TT : Nat × Nat × Nat) (sz : Nat) (kI kJ kZ : ClassId) (K : Nat → Nat) (L : List Nat) (f : Nat → va_E) (hPI : PR kI kJ kZ K L f) (g0 : Nat) (hg0 : isr K L 10 g0) (hU : UN K L) (fS fC : Nat → Int32) (fF : Nat → Int64) (hSV : SV kI kJ K L f fS fC fF) : Met l yX3_lookWhatIsHeld wsX3_lookWhatIsHeld ({ frames := 1, cells := 0, slots := 0, locals := 21 } : Room) (va_Pc [.ref g0] (pr dC dI (va_pl L f) (va_pl L f) [(kI, .int), (kJ, .long), (kZ, .boolean)] sz TT)) (va_Qv (fun (u : Unit) => True) (fun (_ : Unit) t => ∃ f2 : Nat → va_E, PR kI kJ kZ K L f2 ∧ (FR (sK [16, 17]) K L f f2 ∧ ∃ z : Nat → Int32, ZV kZ K L f2 z ∧ MK fS fC fF z) ∧ va_P (dC, dI) vwCl (va_pl L f2) t.heap ∧ va_D (va_A (va_pl L f) sz) (va_pl L f2)) (va_A (va_pl L f) sz)) 0 0 (va_A (va_pl L f) sz) := by
  refine Met.ofW (cc := cX3_lookWhatIsHeld) (maxL := 5) (ret := none) (by decide) rfl ?_
  intro p e s m args below meth c s₁ B hml hv
  obtain ⟨rfl, hsz, hP, hK, hD0, hst⟩ := hv
  have hx := B.exec
  have hb := B.bytes
  have hr := B.returns
  have hts := atoms_spec (ws := wsX3_lookWhatIsHeld) B.pre
  have hown : s.vm.findClass RX3 = some m.cls := findClass_of_methodNamed B.named
  have hlocks := B.notSynchronized
  have iX3_ := in_g_X3_look_X3
  subst hsz
  have hD := hD0.self (sz := s.heap.size)
  generalize hAe : va_A (va_pl L f) s.heap.size = A at hD hst ⊢
  have hA : ∀ q : Nat, s.heap.size ≤ q → A q := fun q h => by rw [← hAe]; exact Or.inr h
  have hS : va_S A s.heap s.heap [] := va_S.rf
  have hl := lv_entry ([.ref g0]) (n := 5) (Nat.le_of_ble_eq_true rfl)
  rw [lg_entry_eq]
  generalize (lg_sl ([.ref g0]) ++ List.replicate (5 - (lg_sl ([.ref g0])).length) Slot.unset).toArray = ls at hl ⊢
  have hl : lv_has ls 5 [(0, .ref g0)] := hl
  have km1_ : Int32.toInt (-1) = -1 := by decide
  have k0_ : Int32.toInt 0 = 0 := by decide
  have k1_ : Int32.toInt 1 = 1 := by decide
  have k8_ : Int32.toInt 8 = 8 := by decide
  have k12_ : Int32.toInt 12 = 12 := by decide
  have k16_ : Int32.toInt 16 = 16 := by decide
  have k6400_ : Int32.toInt 6400 = 6400 := by decide
  have hfr : FR (sK [16, 17]) K L f f := FR.rf
  have hcZ := fun z => cnt_le z 6400
  refine W_nameQ (fun Q0 eQ => ?_)
  (refine hPI.a10E hg0 ?_; intro s1_1 s2_1 s3_1 s4_1 s5_1 s6_1 s7_1 pa_1 lm_1 s8_1 s9_1 s10_1 fm_1 s11_1 nm_1 s12_1 s13_1 s14_1 rm_1 s15_1 s16_1 s17_1 s18_1 e_1 fs1_1 fs2_1 fs3_1 fs4_1 fs5_1 fs6_1 fs7_1 flm_1 fs8_1 fs9_1 fs10_1 ffm_1 fs11_1 fnm_1 fs12_1 fs13_1 fs14_1 frm_1 fs15_1 fs16_1 fs17_1 fs18_1)
  obtain ⟨k_1, hk_1⟩ := va_plg hg0.1 e_1
  have eg11 := hSV.1 s1_1 fs1_1
  have fg11 := (hPI.a11 fs1_1).of eg11
  have eg12 := hSV.2.1 s2_1 fs2_1
  have fg12 := (hPI.a12 fs2_1).of eg12
  have eg13 := hSV.2.2 s3_1 fs3_1
  have fg13 := (hPI.a13 fs3_1).of eg13
  obtain ⟨g_2, e_2, fg_2⟩ := hPI.a16 fs6_1
  obtain ⟨k_2, hk_2⟩ := va_plg fs6_1.1 e_2
  refine lv_iconst (v := 0) hx hb dX3_lookWhatIsHeld_0 (by decide) ?_
  refine lv_istore_n (lv' := [(1, .int 0), (0, .ref g0)]) hx hb dX3_lookWhatIsHeld_1 rfl hl (by decide) rfl (fun ls hl => ?_)
  have hfrE2 := hfr
  have loop_2 : ∀ (n : Nat) (i1 : Int32)   (fl : Nat → va_E) (H : Heap) (locs : List Loc) (ls : Array Slot), (0 ≤ i1.toInt ∧ i1.toInt ≤ 6400) → (6400 - i1.toInt).toNat < n → (FR (sK [16, 17]) K L f fl ∧ (∃ z : Nat → Int32, ZV kZ K L fl z ∧ ∀ j : Nat, (j : Int) < i1.toInt → z j = 0)) → PR kI kJ kZ K L fl → va_P (dC, dI) vwCl (va_pl L fl) H → va_D A (va_pl L fl) → va_S A s.heap H locs → lv_has ls 5 [(1, .int i1), (0, .ref g0)] → W p l e (headSpec wsX3_lookWhatIsHeld ({ frames := 1, cells := 0, slots := 0, locals := 21 } : Room)).room s m (([.ref g0] : List Value).toArray) below meth c H locs 0 0 Q0 (F0 m 2 ls []) := by
    intro n
    induction n with
    | zero => intro i1 fl H locs ls  _ h9; exact absurd h9 (Nat.not_lt_zero _)
    | succ n ih_2 =>
      intro i1 fl H locs ls  hI hM hFN hPI hP hD hS hl
      obtain ⟨hfr, hFN⟩ := hFN
      have eq_3 := (hfr g0 hg0.1 (by rw [hg0.2]; rfl)).trans e_1
      have eq_4 := (hfr s1_1 fs1_1.1 (by rw [fs1_1.2]; rfl)).trans eg11
      have eq_5 := (hfr s2_1 fs2_1.1 (by rw [fs2_1.2]; rfl)).trans eg12
      have eq_6 := (hfr s3_1 fs3_1.1 (by rw [fs3_1.2]; rfl)).trans eg13
      obtain ⟨zA, hZV, hz0⟩ := hFN
      have ezA := hZV s6_1 fs6_1
      have fzA := (hPI.a16 fs6_1).of ezA
      refine lv_iload_n hx hb dX3_lookWhatIsHeld_2 rfl (lv_at hl 0 rfl) ?_
      refine lv_sipush (v := 6400) hx hb dX3_lookWhatIsHeld_3 (by decide) ?_
      refine lv_icmp_ge (tgt := 22) hx hb dX3_lookWhatIsHeld_6 (by decide) (fun c_7 => ?_) (fun c_7 => ?_)
      · have c_7 := Int32.le_iff_toInt_le.mp c_7
        refine lv_iconst (v := 0) hx hb dX3_lookWhatIsHeld_22 (by decide) ?_
        refine lv_istore_n (lv' := [(1, .int 0), (0, .ref g0)]) hx hb dX3_lookWhatIsHeld_23 rfl hl (by decide) rfl (fun ls hl => ?_)
        refine lv_iconst (v := 0) hx hb dX3_lookWhatIsHeld_24 (by decide) ?_
        refine lv_istore_n (lv' := [(2, .int 0), (1, .int 0), (0, .ref g0)]) hx hb dX3_lookWhatIsHeld_25 rfl hl (by decide) rfl (fun ls hl => ?_)
        have hfrE26 := hfr
        obtain ⟨g_8, e_8, fg_8⟩ := hPI.a17 fs7_1
        obtain ⟨k_8, hk_8⟩ := va_plg fs7_1.1 e_8
        have loop_26 : ∀ (n26 : Nat) (t1 : Int32) (i2 : Int32)   (fl26 : Nat → va_E) (H : Heap) (locs : List Loc) (ls : Array Slot), (0 ≤ i2.toInt ∧ i2.toInt ≤ 12) → (12 - i2.toInt).toNat < n26 → (FR (sK [16, 17]) K L fl fl26 ∧ (∃ z p : Nat → Int32, ZV kZ K L fl26 z ∧ PV kI K L fl26 p ∧ WL fS fC fF z p t1.toInt i2.toInt 6400 0)) → PR kI kJ kZ K L fl26 → va_P (dC, dI) vwCl (va_pl L fl26) H → va_D A (va_pl L fl26) → va_S A s.heap H locs → lv_has ls 5 [(2, .int i2), (1, .int t1), (0, .ref g0)] → W p l e (headSpec wsX3_lookWhatIsHeld ({ frames := 1, cells := 0, slots := 0, locals := 21 } : Room)).room s m (([.ref g0] : List Value).toArray) below meth c H locs 0 0 Q0 (F0 m 26 ls []) := by
          intro n26
          induction n26 with
          | zero => intro t1 i2 fl26 H locs ls  _ h9; exact absurd h9 (Nat.not_lt_zero _)
          | succ n26 ih_26 =>
            intro t1 i2 fl26 H locs ls  hI hM hFN hPI hP hD hS hl
            obtain ⟨hfr, hFN⟩ := hFN
            have eq_9 := (hfr g0 hg0.1 (by rw [hg0.2]; rfl)).trans eq_3
            have eq_10 := (hfr s1_1 fs1_1.1 (by rw [fs1_1.2]; rfl)).trans eq_4
            have eq_11 := (hfr s2_1 fs2_1.1 (by rw [fs2_1.2]; rfl)).trans eq_5
            have eq_12 := (hfr s3_1 fs3_1.1 (by rw [fs3_1.2]; rfl)).trans eq_6
            obtain ⟨zB, pB, hZV, hPV, hW⟩ := hFN
            have ezB := hZV s6_1 fs6_1
            have fzB := (hPI.a16 fs6_1).of ezB
            have epB := hPV s7_1 fs7_1
            have fpB := (hPI.a17 fs7_1).of epB
            have hW1 := hW.1
            have hcl := cnt_le zB 6400
            refine lv_iload_n hx hb dX3_lookWhatIsHeld_26 rfl (lv_at hl 0 rfl) ?_
            refine lv_bipush (v := 12) hx hb dX3_lookWhatIsHeld_27 (by decide) ?_
            refine lv_icmp_ge (tgt := 89) hx hb dX3_lookWhatIsHeld_29 (by decide) (fun c_13 => ?_) (fun c_13 => ?_)
            · have c_13 := Int32.le_iff_toInt_le.mp c_13
              have hfrE89 := hfr
              have loop_89 : ∀ (n89 : Nat) (u1 : Int32)   (fl89 : Nat → va_E) (H : Heap) (locs : List Loc) (ls : Array Slot), (True) → 0 < n89 → (FR (sK [16, 17]) K L fl26 fl89 ∧ (∃ z p : Nat → Int32, ZV kZ K L fl89 z ∧ PV kI K L fl89 p ∧ WL fS fC fF z p u1.toInt 12 6400 0 ∧ 2 * (6400 - cnt z 6400) + u1.toInt.toNat < n89)) → PR kI kJ kZ K L fl89 → va_P (dC, dI) vwCl (va_pl L fl89) H → va_D A (va_pl L fl89) → va_S A s.heap H locs → lv_has ls 5 [(1, .int u1), (0, .ref g0)] → W p l e (headSpec wsX3_lookWhatIsHeld ({ frames := 1, cells := 0, slots := 0, locals := 21 } : Room)).room s m (([.ref g0] : List Value).toArray) below meth c H locs 0 0 Q0 (F0 m 89 ls []) := by
                intro n89
                induction n89 with
                | zero => intro u1 fl89 H locs ls  _ h9; exact absurd h9 (Nat.not_lt_zero _)
                | succ n89 ih_89 =>
                  intro u1 fl89 H locs ls  hI hM hFN hPI hP hD hS hl
                  obtain ⟨hfr, hFN⟩ := hFN
                  have eq_14 := (hfr g0 hg0.1 (by rw [hg0.2]; rfl)).trans eq_9
                  have eq_15 := (hfr s1_1 fs1_1.1 (by rw [fs1_1.2]; rfl)).trans eq_10
                  have eq_16 := (hfr s2_1 fs2_1.1 (by rw [fs2_1.2]; rfl)).trans eq_11
                  have eq_17 := (hfr s3_1 fs3_1.1 (by rw [fs3_1.2]; rfl)).trans eq_12
                  obtain ⟨zC, pC, hZV, hPV, hW, hms⟩ := hFN
                  have ezC := hZV s6_1 fs6_1
                  have fzC := (hPI.a16 fs6_1).of ezC
                  have epC := hPV s7_1 fs7_1
                  have fpC := (hPI.a17 fs7_1).of epC
                  have hW1 := hW.1
                  have hcl := cnt_le zC 6400
                  refine lv_iload_n hx hb dX3_lookWhatIsHeld_89 rfl (lv_at hl 0 rfl) ?_
                  refine lv_if_le (tgt := 190) hx hb dX3_lookWhatIsHeld_90 (by decide) (fun c_18 => ?_) (fun c_18 => ?_)
                  · have c_18 := Int32.le_iff_toInt_le.mp c_18
                    have h08 : u1.toInt = 0 := by omega
                    rw [h08] at hW
                    have hMK := wl_end hW
                    subst eQ
                    exact W.vret hx hb hr (fun t ht hW => ⟨⟨(), rfl, trivial, fl89, hPI, ⟨(FR.tr hfrE2 (FR.tr hfrE26 (FR.tr hfrE89 hfr (fun _ h => h)) (fun _ h => h)) (fun _ h => h)), _, ZV.mk hU fs6_1 ezC, hMK⟩, by rw [ht]; exact hP, hD⟩, hS.F ht⟩) hS.2.2 dX3_lookWhatIsHeld_190
                  · have c_18 := mt Int32.le_iff_toInt_le.mpr c_18
                    obtain ⟨i_19, ei_19⟩ : ∃ y : Int32, y = u1 + (-1) := ⟨_, rfl⟩
                    refine lv_iinc (v := i_19) (lv' := [(1, .int i_19), (0, .ref g0)]) hx hb dX3_lookWhatIsHeld_93 hl (k := 0) rfl (by rw [ei_19]; rfl) (by decide) rfl (fun ls hl => ?_)
                    have ki_19 := dec_toInt ei_19 (by omega)
                    refine lv_aload_n hx hb dX3_lookWhatIsHeld_96 rfl (lv_at hl 1 rfl) ?_
                    obtain ⟨k_20, hk_20⟩ := va_plg hg0.1 eq_14
                    refine va_get (D := (dC, dI)) (ci := 3) (v := .ref s7_1) (C := RX3) (T := TX3) (N := 23) hx hb hts iX3_ hown hK hP k_20 hk_20 rfl 6 (by decide) (hts (.fieldLink RX3 32 "FieldLeavesModel" "pile" "[I") (by decide +kernel)) (fun _ h9 => h9) rfl dX3_lookWhatIsHeld_97 ?_
                    refine lv_iload_n hx hb dX3_lookWhatIsHeld_100 rfl (lv_at hl 0 rfl) ?_
                    obtain ⟨k_21, hk_21⟩ := va_plg fs7_1.1 epC
                    have h_21 : vp_in i_19 6400 := (vp_in_iff.mpr (by constructor <;> omega))
                    refine va_iald hx hb hK hP k_21 0 hk_21 rfl h_21 dX3_lookWhatIsHeld_101 ?_
                    refine lv_topi (fun z_21 ez_21 => ?_)
                    have fz_21 := fpC _ (vp_lt h_21)
                    rw [← ez_21] at fz_21
                    refine lv_istore_n (lv' := [(2, .int z_21), (1, .int i_19), (0, .ref g0)]) hx hb dX3_lookWhatIsHeld_102 rfl hl (by decide) rfl (fun ls hl => ?_)
                    refine lv_bipush (v := 8) hx hb dX3_lookWhatIsHeld_103 (by decide) ?_
                    refine lv_istore_n (lv' := [(3, .int 8), (2, .int z_21), (1, .int i_19), (0, .ref g0)]) hx hb dX3_lookWhatIsHeld_105 rfl hl (by decide) rfl (fun ls hl => ?_)
                    have hfrE106 := hfr
                    have loop_106 : ∀ (n106 : Nat) (w1 : Int32) (i3 : Int32)   (fl106 : Nat → va_E) (H : Heap) (locs : List Loc) (ls : Array Slot), (8 ≤ i3.toInt ∧ i3.toInt ≤ 16) → (16 - i3.toInt).toNat < n106 → (FR (sK [16, 17]) K L fl89 fl106 ∧ (∃ z p : Nat → Int32, ZV kZ K L fl106 z ∧ PV kI K L fl106 p ∧ WL fS fC fF z p w1.toInt 12 (Int32.toNatClampNeg z_21) i3.toInt ∧ z (Int32.toNatClampNeg z_21) ≠ 0 ∧ 2 * (6400 - cnt z 6400) + w1.toInt.toNat < n89)) → PR kI kJ kZ K L fl106 → va_P (dC, dI) vwCl (va_pl L fl106) H → va_D A (va_pl L fl106) → va_S A s.heap H locs → lv_has ls 5 [(3, .int i3), (2, .int z_21), (1, .int w1), (0, .ref g0)] → W p l e (headSpec wsX3_lookWhatIsHeld ({ frames := 1, cells := 0, slots := 0, locals := 21 } : Room)).room s m (([.ref g0] : List Value).toArray) below meth c H locs 0 0 Q0 (F0 m 106 ls []) := by
                      intro n106
                      induction n106 with
                      | zero => intro w1 i3 fl106 H locs ls  _ h9; exact absurd h9 (Nat.not_lt_zero _)
                      | succ n106 ih_106 =>
                        intro w1 i3 fl106 H locs ls  hI hM hFN hPI hP hD hS hl
                        obtain ⟨hfr, hFN⟩ := hFN
                        have eq_22 := (hfr g0 hg0.1 (by rw [hg0.2]; rfl)).trans eq_14
                        have eq_23 := (hfr s1_1 fs1_1.1 (by rw [fs1_1.2]; rfl)).trans eq_15
                        have eq_24 := (hfr s2_1 fs2_1.1 (by rw [fs2_1.2]; rfl)).trans eq_16
                        have eq_25 := (hfr s3_1 fs3_1.1 (by rw [fs3_1.2]; rfl)).trans eq_17
                        obtain ⟨zD, pD, hZV, hPV, hW, hzo, hms⟩ := hFN
                        have ezD := hZV s6_1 fs6_1
                        have fzD := (hPI.a16 fs6_1).of ezD
                        have epD := hPV s7_1 fs7_1
                        have fpD := (hPI.a17 fs7_1).of epD
                        have hW1 := hW.1
                        have hcl := cnt_le zD 6400
                        refine lv_iload_n hx hb dX3_lookWhatIsHeld_106 rfl (lv_at hl 0 rfl) ?_
                        refine lv_bipush (v := 16) hx hb dX3_lookWhatIsHeld_107 (by decide) ?_
                        refine lv_icmp_ge (tgt := 187) hx hb dX3_lookWhatIsHeld_109 (by decide) (fun c_26 => ?_) (fun c_26 => ?_)
                        · have c_26 := Int32.le_iff_toInt_le.mp c_26
                          refine lv_goto (tgt := 89) hx hb dX3_lookWhatIsHeld_187 (by decide) ?_
                          exact ih_89 w1 fl106 _ _ _  trivial (by omega) ⟨(FR.tr hfrE106 hfr (fun _ h => h)), ⟨_, _, ZV.mk hU fs6_1 ezD, PV.mk hU fs7_1 epD, (by have h8 : i3.toInt = 16 := (by omega); rw [h8] at hW; exact wl_done hW), by omega⟩⟩ hPI hP hD hS (lv_sub hl [2, 3] rfl)
                        · have c_26 := mt Int32.le_iff_toInt_le.mpr c_26
                          refine lv_iload_n hx hb dX3_lookWhatIsHeld_112 rfl (lv_at hl 0 rfl) ?_
                          refine va_calli (va_runS (As := [.int i3]) (rest := []) ⟨hx, hb, hml, hown, hts⟩ (c_X3_isLink l dC dI TT H.size i3) (va_cwS 1 hts gX3_lookWhatIsHeld_X3_isLink rfl rfl rfl (by decide +kernel) ⟨Nat.le_of_ble_eq_true rfl, Nat.le_of_ble_eq_true rfl⟩) (pr_S (ws := []) (wA := []) (tys := []) vp_nil (hK.sub [] rfl) vd_nil hst hS (ro_free hS hA)) rfl rfl hl.1 rfl (lv_room (Nat.le_of_ble_eq_true rfl)) dX3_lookWhatIsHeld_113 ⟨Nat.le_of_ble_eq_true rfl, Nat.le_of_ble_eq_true rfl⟩) hS (fun q _ h => (ro_free hS hA) q h) (ro_free hS hA) (fun r_27 u t H1 locs ht hvm hw hB hz1 hk1 hS => ?_)
                          have hP := ro_keep hP hk1
                          generalize H1 = H at hP hS ⊢
                          rcases hw with ⟨rfl, hp_28⟩ | ⟨rfl, hp_28⟩
                          · refine lv_if_eq (tgt := 181) hx hb dX3_lookWhatIsHeld_116 (by decide) (fun c9 => absurd c9 (by decide)) (fun _ => ?_)
                            refine lv_aload_n hx hb dX3_lookWhatIsHeld_119 rfl (lv_at hl 3 rfl) ?_
                            obtain ⟨k_29, hk_29⟩ := va_plg hg0.1 eq_22
                            refine va_get (D := (dC, dI)) (ci := 3) (v := .ref s2_1) (C := RX3) (T := TX3) (N := 23) hx hb hts iX3_ hown hK hP k_29 hk_29 rfl 1 (by decide) (hts (.fieldLink RX3 13 "FieldLeavesModel" "classOf" "[I") (by decide +kernel)) (fun _ h9 => h9) rfl dX3_lookWhatIsHeld_120 ?_
                            refine lv_iload_n hx hb dX3_lookWhatIsHeld_123 rfl (lv_at hl 1 rfl) ?_
                            obtain ⟨k_30, hk_30⟩ := va_plg fs2_1.1 eq_24
                            have h_30 : vp_in z_21 6400 := (vp_in_iff.mpr (by constructor <;> omega))
                            refine va_iald hx hb hK hP k_30 0 hk_30 rfl h_30 dX3_lookWhatIsHeld_124 ?_
                            refine lv_topi (fun z_30 ez_30 => ?_)
                            refine lv_iload_n hx hb dX3_lookWhatIsHeld_125 rfl (lv_at hl 0 rfl) ?_
                            refine va_calli (va_runS (As := [.int z_30, .int i3]) (rest := []) ⟨hx, hb, hml, hown, hts⟩ (q_X3_has l dC dI TT H.size z_30 i3) (va_cwS 2 hts gX3_lookWhatIsHeld_X3_has rfl rfl rfl (by decide +kernel) ⟨Nat.le_of_ble_eq_true rfl, Nat.le_of_ble_eq_true rfl⟩) (pr_S (ws := []) (wA := []) (tys := []) vp_nil (hK.sub [] rfl) vd_nil hst hS (ro_free hS hA)) rfl rfl hl.1 rfl (lv_room (Nat.le_of_ble_eq_true rfl)) dX3_lookWhatIsHeld_126 ⟨Nat.le_of_ble_eq_true rfl, Nat.le_of_ble_eq_true rfl⟩) hS (fun q _ h => (ro_free hS hA) q h) (ro_free hS hA) (fun r_31 u t H1 locs ht hvm hw hB hz1 hk1 hS => ?_)
                            have hP := ro_keep hP hk1
                            generalize H1 = H at hP hS ⊢
                            rcases hw with ⟨rfl, hp_32⟩ | ⟨rfl, hp_32⟩
                            · refine lv_if_eq (tgt := 181) hx hb dX3_lookWhatIsHeld_129 (by decide) (fun c9 => absurd c9 (by decide)) (fun _ => ?_)
                              refine lv_aload_n hx hb dX3_lookWhatIsHeld_132 rfl (lv_at hl 3 rfl) ?_
                              obtain ⟨k_33, hk_33⟩ := va_plg hg0.1 eq_22
                              refine va_get (D := (dC, dI)) (ci := 3) (v := .ref s3_1) (C := RX3) (T := TX3) (N := 23) hx hb hts iX3_ hown hK hP k_33 hk_33 rfl 2 (by decide) (hts (.fieldLink RX3 17 "FieldLeavesModel" "field" "[J") (by decide +kernel)) (fun _ h9 => h9) rfl dX3_lookWhatIsHeld_133 ?_
                              refine lv_bipush (v := 17) hx hb dX3_lookWhatIsHeld_136 (by decide) ?_
                              refine lv_iload_n hx hb dX3_lookWhatIsHeld_138 rfl (lv_at hl 1 rfl) ?_
                              refine lv_imul hx hb dX3_lookWhatIsHeld_139 ?_
                              refine lv_topi (fun z_34 ez_34 => ?_)
                              have kz_34 := mul17 ez_34 (by omega) (by omega)
                              refine lv_iload_n hx hb dX3_lookWhatIsHeld_140 rfl (lv_at hl 0 rfl) ?_
                              refine lv_iadd hx hb dX3_lookWhatIsHeld_141 ?_
                              refine lv_topi (fun z_35 ez_35 => ?_)
                              have kz_35 := add_toInt ez_35 (by omega) (by omega)
                              obtain ⟨k_36, hk_36⟩ := va_plg fs3_1.1 eq_25
                              have h_36 : vp_in z_35 108800 := (vp_in_iff.mpr (by constructor <;> omega))
                              refine va_lald hx hb hK hP k_36 1 hk_36 rfl h_36 dX3_lookWhatIsHeld_142 ?_
                              refine lv_topl (fun z_36 ez_36 => ?_)
                              have fz_36 := rgF.at fg13 (o := z_21) (f := i3) (w := z_35) (by constructor <;> omega) (by omega) (by omega)
                              rw [← ez_36] at fz_36
                              refine lv_l2i hx hb dX3_lookWhatIsHeld_143 rfl ?_
                              refine lv_topi (fun z_37 ez_37 => ?_)
                              have kz_37 := l2i_sm ez_37 (by omega) (by omega)
                              refine lv_istore (lv' := [(4, .int z_37), (3, .int i3), (2, .int z_21), (1, .int w1), (0, .ref g0)]) hx hb dX3_lookWhatIsHeld_144 hl (by decide) rfl (fun ls hl => ?_)
                              refine lv_iload hx hb dX3_lookWhatIsHeld_146 (lv_at hl 0 rfl) ?_
                              refine lv_iconst (v := (-1)) hx hb dX3_lookWhatIsHeld_148 (by decide) ?_
                              refine lv_icmp_eq (tgt := 181) hx hb dX3_lookWhatIsHeld_149 (by decide) (fun c_38 => ?_) (fun c_38 => ?_)
                              · have c_38 := congrArg Int32.toInt c_38
                                obtain ⟨i_39, ei_39⟩ : ∃ y : Int32, y = i3 + 1 := ⟨_, rfl⟩
                                refine lv_iinc (v := i_39) (lv' := [(3, .int i_39), (4, .int z_37), (2, .int z_21), (1, .int w1), (0, .ref g0)]) hx hb dX3_lookWhatIsHeld_181 hl (k := 1) rfl (by rw [ei_39]; rfl) (by decide) rfl (fun ls hl => ?_)
                                have ki_39 := inc_toInt ei_39 (by omega)
                                refine lv_goto (tgt := 106) hx hb dX3_lookWhatIsHeld_184 (by decide) ?_
                                exact ih_106 w1 i_39 fl106 _ _ _  (by omega) (by omega) ⟨hfr, ⟨_, _, ZV.mk hU fs6_1 ezD, PV.mk hU fs7_1 epD, (by rw [ki_39]; exact wl_link hW (clamp_int (i := i3) (by omega)) (fun h9 => absurd (by show (fF (17 * Int32.toNatClampNeg z_21 + Int32.toNatClampNeg i3)).toInt = -1; rw [← idx_clamp (o := z_21) (f := i3) (w := z_35) (by omega) (by omega) (by omega), ← ez_36]; omega) h9.2.2)), hzo, hms⟩⟩ hPI hP hD hS (lv_sub hl [0, 2, 3, 4] rfl)
                              · have c_38 := mt Int32.toInt_inj.mp c_38
                                refine lv_aload_n hx hb dX3_lookWhatIsHeld_152 rfl (lv_at hl 4 rfl) ?_
                                obtain ⟨k_40, hk_40⟩ := va_plg hg0.1 eq_22
                                refine va_get (D := (dC, dI)) (ci := 3) (v := .ref s6_1) (C := RX3) (T := TX3) (N := 23) hx hb hts iX3_ hown hK hP k_40 hk_40 rfl 5 (by decide) (hts (.fieldLink RX3 28 "FieldLeavesModel" "isHeld" "[Z") (by decide +kernel)) (fun _ h9 => h9) rfl dX3_lookWhatIsHeld_153 ?_
                                refine lv_iload hx hb dX3_lookWhatIsHeld_156 (lv_at hl 0 rfl) ?_
                                obtain ⟨k_41, hk_41⟩ := va_plg fs6_1.1 ezD
                                have h_41 : vp_in z_37 6400 := (vp_in_iff.mpr (by constructor <;> omega))
                                refine va_zald hx hb hK hP k_41 2 hk_41 rfl h_41 dX3_lookWhatIsHeld_158 ?_
                                refine lv_topi (fun z_41 ez_41 => ?_)
                                refine lv_if_ne (tgt := 181) hx hb dX3_lookWhatIsHeld_159 (by decide) (fun c_42 => ?_) (fun c_42 => ?_)
                                · have c_42 := mt Int32.toInt_inj.mp c_42
                                  obtain ⟨i_43, ei_43⟩ : ∃ y : Int32, y = i3 + 1 := ⟨_, rfl⟩
                                  refine lv_iinc (v := i_43) (lv' := [(3, .int i_43), (4, .int z_37), (2, .int z_21), (1, .int w1), (0, .ref g0)]) hx hb dX3_lookWhatIsHeld_181 hl (k := 1) rfl (by rw [ei_43]; rfl) (by decide) rfl (fun ls hl => ?_)
                                  have ki_43 := inc_toInt ei_43 (by omega)
                                  refine lv_goto (tgt := 106) hx hb dX3_lookWhatIsHeld_184 (by decide) ?_
                                  exact ih_106 w1 i_43 fl106 _ _ _  (by omega) (by omega) ⟨hfr, ⟨_, _, ZV.mk hU fs6_1 ezD, PV.mk hU fs7_1 epD, (by rw [ki_43]; exact wl_link hW (clamp_int (i := i3) (by omega)) (fun _ => by rw [tgt_eq (o := z_21) (f := i3) (w := z_35) (by omega) (by omega) (by omega) ez_36 (by omega)]; exact z_ne ez_41 (by omega))), hzo, hms⟩⟩ hPI hP hD hS (lv_sub hl [0, 2, 3, 4] rfl)
                                · have c_42 := congrArg Int32.toInt c_42
                                  have hz9 := z_of ez_41 (by omega)
                                  have hx9 : Int32.toNatClampNeg z_37 < 6400 := vp_lt (vp_in_iff.mpr (by constructor <;> omega))
                                  have hrm := wl_room hW hx9 hz9
                                  refine lv_aload_n hx hb dX3_lookWhatIsHeld_162 rfl (lv_at hl 4 rfl) ?_
                                  obtain ⟨k_44, hk_44⟩ := va_plg hg0.1 eq_22
                                  refine va_get (D := (dC, dI)) (ci := 3) (v := .ref s6_1) (C := RX3) (T := TX3) (N := 23) hx hb hts iX3_ hown hK hP k_44 hk_44 rfl 5 (by decide) (hts (.fieldLink RX3 28 "FieldLeavesModel" "isHeld" "[Z") (by decide +kernel)) (fun _ h9 => h9) rfl dX3_lookWhatIsHeld_163 ?_
                                  refine lv_iload hx hb dX3_lookWhatIsHeld_166 (lv_at hl 0 rfl) ?_
                                  refine lv_iconst (v := 1) hx hb dX3_lookWhatIsHeld_168 (by decide) ?_
                                  obtain ⟨k_45, hk_45⟩ := va_plg fs6_1.1 ezD
                                  have h_45 : vp_in z_37 6400 := (vp_in_iff.mpr (by constructor <;> omega))
                                  have fw_45 := trivial
                                  have hD9 := hD
                                  refine va_zast hx hb hK hP hD hS k_45 2 hk_45 rfl h_45 dX3_lookWhatIsHeld_169 (fun H locs hP hD hS => ?_)
                                  have hP : va_P (dC, dI) vwCl (va_pl L (va_up fl106 s6_1 (.inl (kZ, 6400, .inl (upd zD (Int32.toNatClampNeg z_37) (vp_nar .boolean 1)))))) H := by rw [← va_pls hD9 fs6_1.1 hk_45 _]; exact hP
                                  have hD : va_D A (va_pl L (va_up fl106 s6_1 (.inl (kZ, 6400, .inl (upd zD (Int32.toNatClampNeg z_37) (vp_nar .boolean 1)))))) := by rw [← va_pls hD9 fs6_1.1 hk_45 _]; exact hD
                                  have hPI := hPI.put (e := .inl (kZ, 6400, .inl (upd zD (Int32.toNatClampNeg z_37) (vp_nar .boolean 1)))) fs6_1 ⟨_, rfl, fw_45⟩
                                  have es_f_46 : va_up fl106 s6_1 (.inl (kZ, 6400, .inl (upd zD (Int32.toNatClampNeg z_37) (vp_nar .boolean 1)))) s6_1 = .inl (kZ, 6400, .inl (upd zD (Int32.toNatClampNeg z_37) (vp_nar .boolean 1))) := va_up_self _ _ _
                                  have eq_47 := (va_up_ne fl106 (.inl (kZ, 6400, .inl (upd zD (Int32.toNatClampNeg z_37) (vp_nar .boolean 1)))) (isr_ne hg0 fs6_1 (by decide))).trans eq_22
                                  have eq_48 := (va_up_ne fl106 (.inl (kZ, 6400, .inl (upd zD (Int32.toNatClampNeg z_37) (vp_nar .boolean 1)))) (isr_ne fs1_1 fs6_1 (by decide))).trans eq_23
                                  have eq_49 := (va_up_ne fl106 (.inl (kZ, 6400, .inl (upd zD (Int32.toNatClampNeg z_37) (vp_nar .boolean 1)))) (isr_ne fs2_1 fs6_1 (by decide))).trans eq_24
                                  have eq_50 := (va_up_ne fl106 (.inl (kZ, 6400, .inl (upd zD (Int32.toNatClampNeg z_37) (vp_nar .boolean 1)))) (isr_ne fs3_1 fs6_1 (by decide))).trans eq_25
                                  have eq_51 := (va_up_ne fl106 (.inl (kZ, 6400, .inl (upd zD (Int32.toNatClampNeg z_37) (vp_nar .boolean 1)))) (isr_ne fs7_1 fs6_1 (by decide))).trans epD
                                  have hfr := fr_up (S := (sK [16, 17])) (e := .inl (kZ, 6400, .inl (upd zD (Int32.toNatClampNeg z_37) (vp_nar .boolean 1)))) hfr fs6_1 (by decide)
                                  generalize va_up fl106 s6_1 (.inl (kZ, 6400, .inl (upd zD (Int32.toNatClampNeg z_37) (vp_nar .boolean 1)))) = f_46 at hP hD hPI es_f_46 eq_47 eq_48 eq_49 eq_50 eq_51 hfr
                                  refine lv_aload_n hx hb dX3_lookWhatIsHeld_170 rfl (lv_at hl 4 rfl) ?_
                                  obtain ⟨k_52, hk_52⟩ := va_plg hg0.1 eq_47
                                  refine va_get (D := (dC, dI)) (ci := 3) (v := .ref s7_1) (C := RX3) (T := TX3) (N := 23) hx hb hts iX3_ hown hK hP k_52 hk_52 rfl 6 (by decide) (hts (.fieldLink RX3 32 "FieldLeavesModel" "pile" "[I") (by decide +kernel)) (fun _ h9 => h9) rfl dX3_lookWhatIsHeld_171 ?_
                                  refine lv_iload_n hx hb dX3_lookWhatIsHeld_174 rfl (lv_at hl 3 rfl) ?_
                                  refine lv_iload hx hb dX3_lookWhatIsHeld_175 (lv_at hl 0 rfl) ?_
                                  obtain ⟨k_53, hk_53⟩ := va_plg fs7_1.1 eq_51
                                  have h_53 : vp_in w1 6400 := (vp_in_iff.mpr (by constructor <;> omega))
                                  have fw_53 := updS (P := fun v => 0 ≤ v.toInt ∧ v.toInt < 6400) (k := Int32.toNatClampNeg w1) (v := z_37) fpD (by omega)
                                  have hD9 := hD
                                  refine va_iast hx hb hK hP hD hS k_53 0 hk_53 rfl h_53 dX3_lookWhatIsHeld_177 (fun H locs hP hD hS => ?_)
                                  have hP : va_P (dC, dI) vwCl (va_pl L (va_up f_46 s7_1 (.inl (kI, 6400, .inl (upd pD (Int32.toNatClampNeg w1) z_37))))) H := by rw [← va_pls hD9 fs7_1.1 hk_53 _]; exact hP
                                  have hD : va_D A (va_pl L (va_up f_46 s7_1 (.inl (kI, 6400, .inl (upd pD (Int32.toNatClampNeg w1) z_37))))) := by rw [← va_pls hD9 fs7_1.1 hk_53 _]; exact hD
                                  have hPI := hPI.put (e := .inl (kI, 6400, .inl (upd pD (Int32.toNatClampNeg w1) z_37))) fs7_1 ⟨_, rfl, fw_53⟩
                                  have es_f_54 : va_up f_46 s7_1 (.inl (kI, 6400, .inl (upd pD (Int32.toNatClampNeg w1) z_37))) s7_1 = .inl (kI, 6400, .inl (upd pD (Int32.toNatClampNeg w1) z_37)) := va_up_self _ _ _
                                  have eq_55 := (va_up_ne f_46 (.inl (kI, 6400, .inl (upd pD (Int32.toNatClampNeg w1) z_37))) (isr_ne hg0 fs7_1 (by decide))).trans eq_47
                                  have eq_56 := (va_up_ne f_46 (.inl (kI, 6400, .inl (upd pD (Int32.toNatClampNeg w1) z_37))) (isr_ne fs1_1 fs7_1 (by decide))).trans eq_48
                                  have eq_57 := (va_up_ne f_46 (.inl (kI, 6400, .inl (upd pD (Int32.toNatClampNeg w1) z_37))) (isr_ne fs2_1 fs7_1 (by decide))).trans eq_49
                                  have eq_58 := (va_up_ne f_46 (.inl (kI, 6400, .inl (upd pD (Int32.toNatClampNeg w1) z_37))) (isr_ne fs3_1 fs7_1 (by decide))).trans eq_50
                                  have eq_59 := (va_up_ne f_46 (.inl (kI, 6400, .inl (upd pD (Int32.toNatClampNeg w1) z_37))) (isr_ne fs6_1 fs7_1 (by decide))).trans es_f_46
                                  have hfr := fr_up (S := (sK [16, 17])) (e := .inl (kI, 6400, .inl (upd pD (Int32.toNatClampNeg w1) z_37))) hfr fs7_1 (by decide)
                                  generalize va_up f_46 s7_1 (.inl (kI, 6400, .inl (upd pD (Int32.toNatClampNeg w1) z_37))) = f_54 at hP hD hPI es_f_54 eq_55 eq_56 eq_57 eq_58 eq_59 hfr
                                  obtain ⟨i_60, ei_60⟩ : ∃ y : Int32, y = w1 + 1 := ⟨_, rfl⟩
                                  refine lv_iinc (v := i_60) (lv' := [(1, .int i_60), (4, .int z_37), (3, .int i3), (2, .int z_21), (0, .ref g0)]) hx hb dX3_lookWhatIsHeld_178 hl (k := 3) rfl (by rw [ei_60]; rfl) (by decide) rfl (fun ls hl => ?_)
                                  have ki_60 := inc_toInt ei_60 (by omega)
                                  obtain ⟨i_61, ei_61⟩ : ∃ y : Int32, y = i3 + 1 := ⟨_, rfl⟩
                                  refine lv_iinc (v := i_61) (lv' := [(3, .int i_61), (1, .int i_60), (4, .int z_37), (2, .int z_21), (0, .ref g0)]) hx hb dX3_lookWhatIsHeld_181 hl (k := 2) rfl (by rw [ei_61]; rfl) (by decide) rfl (fun ls hl => ?_)
                                  have ki_61 := inc_toInt ei_61 (by omega)
                                  refine lv_goto (tgt := 106) hx hb dX3_lookWhatIsHeld_184 (by decide) ?_
                                  exact ih_106 i_60 i_61 f_54 _ _ _  (by omega) (by omega) ⟨hfr, ⟨_, _, ZV.mk hU fs6_1 eq_59, PV.mk hU fs7_1 es_f_54, (by rw [ki_61, ki_60]; exact wl_link (wl_push hW (x := Int32.toNatClampNeg z_37) hx9 hz9 nz1 (clamp_int (by omega)).symm (fun P hP => by have h8 := hP.2 _ _ (wl_P hW (vp_lt (vp_in_iff.mpr (by constructor <;> omega) : vp_in z_21 6400)) hzo P hP) (lnk_mk (o := z_21) (f := i3) (w := z_35) (u := z_37) (by omega) (by omega) (by omega) ez_30 hp_32 ez_36 (by omega) (by omega)); rw [tgt_eq (o := z_21) (f := i3) (w := z_35) (by omega) (by omega) (by omega) ez_36 (by omega)] at h8; exact h8)) (clamp_int (i := i3) (by omega)) (fun _ => by rw [tgt_eq (o := z_21) (f := i3) (w := z_35) (by omega) (by omega) (by omega) ez_36 (by omega), pk_us]; exact nz1)), upd_ne0 nz1 hzo, (by have h8 := wl_m hx9 hz9 nz1; omega)⟩⟩ hPI hP hD hS (lv_sub hl [0, 3, 1, 4] rfl)
                            · refine lv_if_eq (tgt := 181) hx hb dX3_lookWhatIsHeld_129 (by decide) (fun _ => ?_) (fun c9 => absurd c9 (by decide))
                              obtain ⟨i_62, ei_62⟩ : ∃ y : Int32, y = i3 + 1 := ⟨_, rfl⟩
                              refine lv_iinc (v := i_62) (lv' := [(3, .int i_62), (2, .int z_21), (1, .int w1), (0, .ref g0)]) hx hb dX3_lookWhatIsHeld_181 hl (k := 0) rfl (by rw [ei_62]; rfl) (by decide) rfl (fun ls hl => ?_)
                              have ki_62 := inc_toInt ei_62 (by omega)
                              refine lv_goto (tgt := 106) hx hb dX3_lookWhatIsHeld_184 (by decide) ?_
                              exact ih_106 w1 i_62 fl106 _ _ _  (by omega) (by omega) ⟨hfr, ⟨_, _, ZV.mk hU fs6_1 ezD, PV.mk hU fs7_1 epD, (by rw [ki_62]; exact wl_link hW (clamp_int (i := i3) (by omega)) (fun h9 => absurd h9.2.1 (by rw [clamp_int (by omega), ← ez_30]; exact hp_32))), hzo, hms⟩⟩ hPI hP hD hS (lv_sub hl [0, 1, 2, 3] rfl)
                          · refine lv_if_eq (tgt := 181) hx hb dX3_lookWhatIsHeld_116 (by decide) (fun _ => ?_) (fun c9 => absurd c9 (by decide))
                            obtain ⟨i_63, ei_63⟩ : ∃ y : Int32, y = i3 + 1 := ⟨_, rfl⟩
                            refine lv_iinc (v := i_63) (lv' := [(3, .int i_63), (2, .int z_21), (1, .int w1), (0, .ref g0)]) hx hb dX3_lookWhatIsHeld_181 hl (k := 0) rfl (by rw [ei_63]; rfl) (by decide) rfl (fun ls hl => ?_)
                            have ki_63 := inc_toInt ei_63 (by omega)
                            refine lv_goto (tgt := 106) hx hb dX3_lookWhatIsHeld_184 (by decide) ?_
                            exact ih_106 w1 i_63 fl106 _ _ _  (by omega) (by omega) ⟨hfr, ⟨_, _, ZV.mk hU fs6_1 ezD, PV.mk hU fs7_1 epD, (by rw [ki_63]; exact wl_link hW (clamp_int (i := i3) (by omega)) (fun h9 => absurd h9.1 (by unfold lkf; have h8 := clamp_int (i := i3) (by omega); omega))), hzo, hms⟩⟩ hPI hP hD hS (lv_sub hl [0, 1, 2, 3] rfl)
                    exact loop_106 9 i_19 8 fl89 _ _ _  (by omega) (by omega) ⟨FR.rf, ⟨_, _, ZV.mk hU fs6_1 ezC, PV.mk hU fs7_1 epC, (by have h8 := wl_pop hW (t := Int32.toNatClampNeg i_19) (by rw [clamp_int (by omega)]; omega) ez_21 (by omega); rw [clamp_int (by omega)] at h8; rw [k8_]; exact h8), (by have h8 := hW.2.1 (Int32.toNatClampNeg i_19) (by rw [clamp_int (by omega)]; omega); rw [← ez_21] at h8; exact h8), by omega⟩⟩ hPI hP hD hS (lv_sub hl [0, 1, 2, 3] rfl)
              exact loop_89 19201 t1 fl26 _ _ _  trivial (by omega) ⟨FR.rf, ⟨_, _, ZV.mk hU fs6_1 ezB, PV.mk hU fs7_1 epB, (by have h8 : i2.toInt = 12 := (by omega); rw [h8] at hW; exact hW), by omega⟩⟩ hPI hP hD hS (lv_sub hl [1, 2] rfl)
            · have c_13 := mt Int32.le_iff_toInt_le.mpr c_13
              refine lv_aload_n hx hb dX3_lookWhatIsHeld_32 rfl (lv_at hl 2 rfl) ?_
              obtain ⟨k_64, hk_64⟩ := va_plg hg0.1 eq_9
              refine va_get (D := (dC, dI)) (ci := 3) (v := .ref s1_1) (C := RX3) (T := TX3) (N := 23) hx hb hts iX3_ hown hK hP k_64 hk_64 rfl 0 (by decide) (hts (.fieldLink RX3 7 "FieldLeavesModel" "slot" "[I") (by decide +kernel)) (fun _ h9 => h9) rfl dX3_lookWhatIsHeld_33 ?_
              refine lv_iload_n hx hb dX3_lookWhatIsHeld_36 rfl (lv_at hl 0 rfl) ?_
              obtain ⟨k_65, hk_65⟩ := va_plg fs1_1.1 eq_10
              have h_65 : vp_in i2 12 := (vp_in_iff.mpr (by constructor <;> omega))
              refine va_iald hx hb hK hP k_65 0 hk_65 rfl h_65 dX3_lookWhatIsHeld_37 ?_
              refine lv_topi (fun z_65 ez_65 => ?_)
              have fz_65 := fg11 _ (vp_lt h_65)
              rw [← ez_65] at fz_65
              refine lv_iconst (v := (-1)) hx hb dX3_lookWhatIsHeld_38 (by decide) ?_
              refine lv_icmp_eq (tgt := 83) hx hb dX3_lookWhatIsHeld_39 (by decide) (fun c_66 => ?_) (fun c_66 => ?_)
              · have c_66 := congrArg Int32.toInt c_66
                obtain ⟨i_67, ei_67⟩ : ∃ y : Int32, y = i2 + 1 := ⟨_, rfl⟩
                refine lv_iinc (v := i_67) (lv' := [(2, .int i_67), (1, .int t1), (0, .ref g0)]) hx hb dX3_lookWhatIsHeld_83 hl (k := 0) rfl (by rw [ei_67]; rfl) (by decide) rfl (fun ls hl => ?_)
                have ki_67 := inc_toInt ei_67 (by omega)
                refine lv_goto (tgt := 26) hx hb dX3_lookWhatIsHeld_86 (by decide) ?_
                exact ih_26 t1 i_67 fl26 _ _ _  (by omega) (by omega) ⟨hfr, ⟨_, _, ZV.mk hU fs6_1 ezB, PV.mk hU fs7_1 epB, by rw [ki_67]; exact wl_slot hW (clamp_int (i := i2) (by omega)) (fun h9 => absurd (by rw [← ez_65]; omega) h9)⟩⟩ hPI hP hD hS (lv_sub hl [0, 1, 2] rfl)
              · have c_66 := mt Int32.toInt_inj.mp c_66
                refine lv_aload_n hx hb dX3_lookWhatIsHeld_42 rfl (lv_at hl 2 rfl) ?_
                obtain ⟨k_68, hk_68⟩ := va_plg hg0.1 eq_9
                refine va_get (D := (dC, dI)) (ci := 3) (v := .ref s6_1) (C := RX3) (T := TX3) (N := 23) hx hb hts iX3_ hown hK hP k_68 hk_68 rfl 5 (by decide) (hts (.fieldLink RX3 28 "FieldLeavesModel" "isHeld" "[Z") (by decide +kernel)) (fun _ h9 => h9) rfl dX3_lookWhatIsHeld_43 ?_
                refine lv_aload_n hx hb dX3_lookWhatIsHeld_46 rfl (lv_at hl 2 rfl) ?_
                obtain ⟨k_69, hk_69⟩ := va_plg hg0.1 eq_9
                refine va_get (D := (dC, dI)) (ci := 3) (v := .ref s1_1) (C := RX3) (T := TX3) (N := 23) hx hb hts iX3_ hown hK hP k_69 hk_69 rfl 0 (by decide) (hts (.fieldLink RX3 7 "FieldLeavesModel" "slot" "[I") (by decide +kernel)) (fun _ h9 => h9) rfl dX3_lookWhatIsHeld_47 ?_
                refine lv_iload_n hx hb dX3_lookWhatIsHeld_50 rfl (lv_at hl 0 rfl) ?_
                obtain ⟨k_70, hk_70⟩ := va_plg fs1_1.1 eq_10
                have h_70 : vp_in i2 12 := (vp_in_iff.mpr (by constructor <;> omega))
                refine va_iald hx hb hK hP k_70 0 hk_70 rfl h_70 dX3_lookWhatIsHeld_51 ?_
                refine lv_topi (fun z_70 ez_70 => ?_)
                obtain rfl : z_65 = z_70 := ez_65.trans ez_70.symm
                obtain ⟨k_71, hk_71⟩ := va_plg fs6_1.1 ezB
                have h_71 : vp_in z_65 6400 := (vp_in_iff.mpr (by constructor <;> omega))
                refine va_zald hx hb hK hP k_71 2 hk_71 rfl h_71 dX3_lookWhatIsHeld_52 ?_
                refine lv_topi (fun z_71 ez_71 => ?_)
                refine lv_if_ne (tgt := 83) hx hb dX3_lookWhatIsHeld_53 (by decide) (fun c_72 => ?_) (fun c_72 => ?_)
                · have c_72 := mt Int32.toInt_inj.mp c_72
                  obtain ⟨i_73, ei_73⟩ : ∃ y : Int32, y = i2 + 1 := ⟨_, rfl⟩
                  refine lv_iinc (v := i_73) (lv' := [(2, .int i_73), (1, .int t1), (0, .ref g0)]) hx hb dX3_lookWhatIsHeld_83 hl (k := 0) rfl (by rw [ei_73]; rfl) (by decide) rfl (fun ls hl => ?_)
                  have ki_73 := inc_toInt ei_73 (by omega)
                  refine lv_goto (tgt := 26) hx hb dX3_lookWhatIsHeld_86 (by decide) ?_
                  exact ih_26 t1 i_73 fl26 _ _ _  (by omega) (by omega) ⟨hfr, ⟨_, _, ZV.mk hU fs6_1 ezB, PV.mk hU fs7_1 epB, by rw [ki_73]; exact wl_slot hW (clamp_int (i := i2) (by omega)) (fun _ => by rw [← ez_65]; exact z_ne ez_71 (by omega))⟩⟩ hPI hP hD hS (lv_sub hl [0, 1, 2] rfl)
                · have c_72 := congrArg Int32.toInt c_72
                  have hz9 := z_of ez_71 (by omega)
                  have hx9 : Int32.toNatClampNeg z_65 < 6400 := vp_lt (vp_in_iff.mpr (by constructor <;> omega))
                  have hrm := wl_room hW hx9 hz9
                  refine lv_aload_n hx hb dX3_lookWhatIsHeld_56 rfl (lv_at hl 2 rfl) ?_
                  obtain ⟨k_74, hk_74⟩ := va_plg hg0.1 eq_9
                  refine va_get (D := (dC, dI)) (ci := 3) (v := .ref s6_1) (C := RX3) (T := TX3) (N := 23) hx hb hts iX3_ hown hK hP k_74 hk_74 rfl 5 (by decide) (hts (.fieldLink RX3 28 "FieldLeavesModel" "isHeld" "[Z") (by decide +kernel)) (fun _ h9 => h9) rfl dX3_lookWhatIsHeld_57 ?_
                  refine lv_aload_n hx hb dX3_lookWhatIsHeld_60 rfl (lv_at hl 2 rfl) ?_
                  obtain ⟨k_75, hk_75⟩ := va_plg hg0.1 eq_9
                  refine va_get (D := (dC, dI)) (ci := 3) (v := .ref s1_1) (C := RX3) (T := TX3) (N := 23) hx hb hts iX3_ hown hK hP k_75 hk_75 rfl 0 (by decide) (hts (.fieldLink RX3 7 "FieldLeavesModel" "slot" "[I") (by decide +kernel)) (fun _ h9 => h9) rfl dX3_lookWhatIsHeld_61 ?_
                  refine lv_iload_n hx hb dX3_lookWhatIsHeld_64 rfl (lv_at hl 0 rfl) ?_
                  obtain ⟨k_76, hk_76⟩ := va_plg fs1_1.1 eq_10
                  have h_76 : vp_in i2 12 := (vp_in_iff.mpr (by constructor <;> omega))
                  refine va_iald hx hb hK hP k_76 0 hk_76 rfl h_76 dX3_lookWhatIsHeld_65 ?_
                  refine lv_topi (fun z_76 ez_76 => ?_)
                  obtain rfl : z_65 = z_76 := ez_65.trans ez_76.symm
                  refine lv_iconst (v := 1) hx hb dX3_lookWhatIsHeld_66 (by decide) ?_
                  obtain ⟨k_77, hk_77⟩ := va_plg fs6_1.1 ezB
                  have h_77 : vp_in z_65 6400 := (vp_in_iff.mpr (by constructor <;> omega))
                  have fw_77 := trivial
                  have hD9 := hD
                  refine va_zast hx hb hK hP hD hS k_77 2 hk_77 rfl h_77 dX3_lookWhatIsHeld_67 (fun H locs hP hD hS => ?_)
                  have hP : va_P (dC, dI) vwCl (va_pl L (va_up fl26 s6_1 (.inl (kZ, 6400, .inl (upd zB (Int32.toNatClampNeg z_65) (vp_nar .boolean 1)))))) H := by rw [← va_pls hD9 fs6_1.1 hk_77 _]; exact hP
                  have hD : va_D A (va_pl L (va_up fl26 s6_1 (.inl (kZ, 6400, .inl (upd zB (Int32.toNatClampNeg z_65) (vp_nar .boolean 1)))))) := by rw [← va_pls hD9 fs6_1.1 hk_77 _]; exact hD
                  have hPI := hPI.put (e := .inl (kZ, 6400, .inl (upd zB (Int32.toNatClampNeg z_65) (vp_nar .boolean 1)))) fs6_1 ⟨_, rfl, fw_77⟩
                  have es_f_78 : va_up fl26 s6_1 (.inl (kZ, 6400, .inl (upd zB (Int32.toNatClampNeg z_65) (vp_nar .boolean 1)))) s6_1 = .inl (kZ, 6400, .inl (upd zB (Int32.toNatClampNeg z_65) (vp_nar .boolean 1))) := va_up_self _ _ _
                  have eq_79 := (va_up_ne fl26 (.inl (kZ, 6400, .inl (upd zB (Int32.toNatClampNeg z_65) (vp_nar .boolean 1)))) (isr_ne hg0 fs6_1 (by decide))).trans eq_9
                  have eq_80 := (va_up_ne fl26 (.inl (kZ, 6400, .inl (upd zB (Int32.toNatClampNeg z_65) (vp_nar .boolean 1)))) (isr_ne fs1_1 fs6_1 (by decide))).trans eq_10
                  have eq_81 := (va_up_ne fl26 (.inl (kZ, 6400, .inl (upd zB (Int32.toNatClampNeg z_65) (vp_nar .boolean 1)))) (isr_ne fs2_1 fs6_1 (by decide))).trans eq_11
                  have eq_82 := (va_up_ne fl26 (.inl (kZ, 6400, .inl (upd zB (Int32.toNatClampNeg z_65) (vp_nar .boolean 1)))) (isr_ne fs3_1 fs6_1 (by decide))).trans eq_12
                  have eq_83 := (va_up_ne fl26 (.inl (kZ, 6400, .inl (upd zB (Int32.toNatClampNeg z_65) (vp_nar .boolean 1)))) (isr_ne fs7_1 fs6_1 (by decide))).trans epB
                  have hfr := fr_up (S := (sK [16, 17])) (e := .inl (kZ, 6400, .inl (upd zB (Int32.toNatClampNeg z_65) (vp_nar .boolean 1)))) hfr fs6_1 (by decide)
                  generalize va_up fl26 s6_1 (.inl (kZ, 6400, .inl (upd zB (Int32.toNatClampNeg z_65) (vp_nar .boolean 1)))) = f_78 at hP hD hPI es_f_78 eq_79 eq_80 eq_81 eq_82 eq_83 hfr
                  refine lv_aload_n hx hb dX3_lookWhatIsHeld_68 rfl (lv_at hl 2 rfl) ?_
                  obtain ⟨k_84, hk_84⟩ := va_plg hg0.1 eq_79
                  refine va_get (D := (dC, dI)) (ci := 3) (v := .ref s7_1) (C := RX3) (T := TX3) (N := 23) hx hb hts iX3_ hown hK hP k_84 hk_84 rfl 6 (by decide) (hts (.fieldLink RX3 32 "FieldLeavesModel" "pile" "[I") (by decide +kernel)) (fun _ h9 => h9) rfl dX3_lookWhatIsHeld_69 ?_
                  refine lv_iload_n hx hb dX3_lookWhatIsHeld_72 rfl (lv_at hl 1 rfl) ?_
                  refine lv_aload_n hx hb dX3_lookWhatIsHeld_73 rfl (lv_at hl 2 rfl) ?_
                  obtain ⟨k_85, hk_85⟩ := va_plg hg0.1 eq_79
                  refine va_get (D := (dC, dI)) (ci := 3) (v := .ref s1_1) (C := RX3) (T := TX3) (N := 23) hx hb hts iX3_ hown hK hP k_85 hk_85 rfl 0 (by decide) (hts (.fieldLink RX3 7 "FieldLeavesModel" "slot" "[I") (by decide +kernel)) (fun _ h9 => h9) rfl dX3_lookWhatIsHeld_74 ?_
                  refine lv_iload_n hx hb dX3_lookWhatIsHeld_77 rfl (lv_at hl 0 rfl) ?_
                  obtain ⟨k_86, hk_86⟩ := va_plg fs1_1.1 eq_80
                  have h_86 : vp_in i2 12 := (vp_in_iff.mpr (by constructor <;> omega))
                  refine va_iald hx hb hK hP k_86 0 hk_86 rfl h_86 dX3_lookWhatIsHeld_78 ?_
                  refine lv_topi (fun z_86 ez_86 => ?_)
                  obtain rfl : z_65 = z_86 := ez_65.trans ez_86.symm
                  obtain ⟨k_87, hk_87⟩ := va_plg fs7_1.1 eq_83
                  have h_87 : vp_in t1 6400 := (vp_in_iff.mpr (by constructor <;> omega))
                  have fw_87 := updS (P := fun v => 0 ≤ v.toInt ∧ v.toInt < 6400) (k := Int32.toNatClampNeg t1) (v := z_65) fpB (by omega)
                  have hD9 := hD
                  refine va_iast hx hb hK hP hD hS k_87 0 hk_87 rfl h_87 dX3_lookWhatIsHeld_79 (fun H locs hP hD hS => ?_)
                  have hP : va_P (dC, dI) vwCl (va_pl L (va_up f_78 s7_1 (.inl (kI, 6400, .inl (upd pB (Int32.toNatClampNeg t1) z_65))))) H := by rw [← va_pls hD9 fs7_1.1 hk_87 _]; exact hP
                  have hD : va_D A (va_pl L (va_up f_78 s7_1 (.inl (kI, 6400, .inl (upd pB (Int32.toNatClampNeg t1) z_65))))) := by rw [← va_pls hD9 fs7_1.1 hk_87 _]; exact hD
                  have hPI := hPI.put (e := .inl (kI, 6400, .inl (upd pB (Int32.toNatClampNeg t1) z_65))) fs7_1 ⟨_, rfl, fw_87⟩
                  have es_f_88 : va_up f_78 s7_1 (.inl (kI, 6400, .inl (upd pB (Int32.toNatClampNeg t1) z_65))) s7_1 = .inl (kI, 6400, .inl (upd pB (Int32.toNatClampNeg t1) z_65)) := va_up_self _ _ _
                  have eq_89 := (va_up_ne f_78 (.inl (kI, 6400, .inl (upd pB (Int32.toNatClampNeg t1) z_65))) (isr_ne hg0 fs7_1 (by decide))).trans eq_79
                  have eq_90 := (va_up_ne f_78 (.inl (kI, 6400, .inl (upd pB (Int32.toNatClampNeg t1) z_65))) (isr_ne fs1_1 fs7_1 (by decide))).trans eq_80
                  have eq_91 := (va_up_ne f_78 (.inl (kI, 6400, .inl (upd pB (Int32.toNatClampNeg t1) z_65))) (isr_ne fs2_1 fs7_1 (by decide))).trans eq_81
                  have eq_92 := (va_up_ne f_78 (.inl (kI, 6400, .inl (upd pB (Int32.toNatClampNeg t1) z_65))) (isr_ne fs3_1 fs7_1 (by decide))).trans eq_82
                  have eq_93 := (va_up_ne f_78 (.inl (kI, 6400, .inl (upd pB (Int32.toNatClampNeg t1) z_65))) (isr_ne fs6_1 fs7_1 (by decide))).trans es_f_78
                  have hfr := fr_up (S := (sK [16, 17])) (e := .inl (kI, 6400, .inl (upd pB (Int32.toNatClampNeg t1) z_65))) hfr fs7_1 (by decide)
                  generalize va_up f_78 s7_1 (.inl (kI, 6400, .inl (upd pB (Int32.toNatClampNeg t1) z_65))) = f_88 at hP hD hPI es_f_88 eq_89 eq_90 eq_91 eq_92 eq_93 hfr
                  obtain ⟨i_94, ei_94⟩ : ∃ y : Int32, y = t1 + 1 := ⟨_, rfl⟩
                  refine lv_iinc (v := i_94) (lv' := [(1, .int i_94), (2, .int i2), (0, .ref g0)]) hx hb dX3_lookWhatIsHeld_80 hl (k := 1) rfl (by rw [ei_94]; rfl) (by decide) rfl (fun ls hl => ?_)
                  have ki_94 := inc_toInt ei_94 (by omega)
                  obtain ⟨i_95, ei_95⟩ : ∃ y : Int32, y = i2 + 1 := ⟨_, rfl⟩
                  refine lv_iinc (v := i_95) (lv' := [(2, .int i_95), (1, .int i_94), (0, .ref g0)]) hx hb dX3_lookWhatIsHeld_83 hl (k := 1) rfl (by rw [ei_95]; rfl) (by decide) rfl (fun ls hl => ?_)
                  have ki_95 := inc_toInt ei_95 (by omega)
                  refine lv_goto (tgt := 26) hx hb dX3_lookWhatIsHeld_86 (by decide) ?_
                  exact ih_26 i_94 i_95 f_88 _ _ _  (by omega) (by omega) ⟨hfr, ⟨_, _, ZV.mk hU fs6_1 eq_93, PV.mk hU fs7_1 es_f_88, by rw [ki_95, ki_94]; exact wl_slot (wl_push hW (x := Int32.toNatClampNeg z_65) hx9 hz9 nz1 (clamp_int (by omega)).symm (fun P hP => by have h8 := hP.1 _ (vp_lt (vp_in_iff.mpr (by constructor <;> omega) : vp_in i2 12)) (by rw [← ez_65]; omega); rw [← ez_65] at h8; exact h8)) (clamp_int (i := i2) (by omega)) (fun _ => by rw [← ez_65]; show upd zB (Int32.toNatClampNeg z_65) _ (Int32.toNatClampNeg z_65) ≠ 0; rw [pk_us]; exact nz1)⟩⟩ hPI hP hD hS (lv_sub hl [0, 1, 2] rfl)
        exact loop_26 13 0 0 fl _ _ _  (by omega) (by omega) ⟨FR.rf, ⟨_, _, ZV.mk hU fs6_1 ezA, PV.mk hU fs7_1 e_8, by rw [k0_]; exact wl_0 (fun j hj => hz0 j (by omega))⟩⟩ hPI hP hD hS hl
      · have c_7 := mt Int32.le_iff_toInt_le.mpr c_7
        refine lv_aload_n hx hb dX3_lookWhatIsHeld_9 rfl (lv_at hl 1 rfl) ?_
        obtain ⟨k_96, hk_96⟩ := va_plg hg0.1 eq_3
        refine va_get (D := (dC, dI)) (ci := 3) (v := .ref s6_1) (C := RX3) (T := TX3) (N := 23) hx hb hts iX3_ hown hK hP k_96 hk_96 rfl 5 (by decide) (hts (.fieldLink RX3 28 "FieldLeavesModel" "isHeld" "[Z") (by decide +kernel)) (fun _ h9 => h9) rfl dX3_lookWhatIsHeld_10 ?_
        refine lv_iload_n hx hb dX3_lookWhatIsHeld_13 rfl (lv_at hl 0 rfl) ?_
        refine lv_iconst (v := 0) hx hb dX3_lookWhatIsHeld_14 (by decide) ?_
        obtain ⟨k_97, hk_97⟩ := va_plg fs6_1.1 ezA
        have h_97 : vp_in i1 6400 := (vp_in_iff.mpr (by constructor <;> omega))
        have fw_97 := trivial
        have hD9 := hD
        refine va_zast hx hb hK hP hD hS k_97 2 hk_97 rfl h_97 dX3_lookWhatIsHeld_15 (fun H locs hP hD hS => ?_)
        have hP : va_P (dC, dI) vwCl (va_pl L (va_up fl s6_1 (.inl (kZ, 6400, .inl (upd zA (Int32.toNatClampNeg i1) (vp_nar .boolean 0)))))) H := by rw [← va_pls hD9 fs6_1.1 hk_97 _]; exact hP
        have hD : va_D A (va_pl L (va_up fl s6_1 (.inl (kZ, 6400, .inl (upd zA (Int32.toNatClampNeg i1) (vp_nar .boolean 0)))))) := by rw [← va_pls hD9 fs6_1.1 hk_97 _]; exact hD
        have hPI := hPI.put (e := .inl (kZ, 6400, .inl (upd zA (Int32.toNatClampNeg i1) (vp_nar .boolean 0)))) fs6_1 ⟨_, rfl, fw_97⟩
        have es_f_98 : va_up fl s6_1 (.inl (kZ, 6400, .inl (upd zA (Int32.toNatClampNeg i1) (vp_nar .boolean 0)))) s6_1 = .inl (kZ, 6400, .inl (upd zA (Int32.toNatClampNeg i1) (vp_nar .boolean 0))) := va_up_self _ _ _
        have eq_99 := (va_up_ne fl (.inl (kZ, 6400, .inl (upd zA (Int32.toNatClampNeg i1) (vp_nar .boolean 0)))) (isr_ne hg0 fs6_1 (by decide))).trans eq_3
        have eq_100 := (va_up_ne fl (.inl (kZ, 6400, .inl (upd zA (Int32.toNatClampNeg i1) (vp_nar .boolean 0)))) (isr_ne fs1_1 fs6_1 (by decide))).trans eq_4
        have eq_101 := (va_up_ne fl (.inl (kZ, 6400, .inl (upd zA (Int32.toNatClampNeg i1) (vp_nar .boolean 0)))) (isr_ne fs2_1 fs6_1 (by decide))).trans eq_5
        have eq_102 := (va_up_ne fl (.inl (kZ, 6400, .inl (upd zA (Int32.toNatClampNeg i1) (vp_nar .boolean 0)))) (isr_ne fs3_1 fs6_1 (by decide))).trans eq_6
        have hfr := fr_up (S := (sK [16, 17])) (e := .inl (kZ, 6400, .inl (upd zA (Int32.toNatClampNeg i1) (vp_nar .boolean 0)))) hfr fs6_1 (by decide)
        generalize va_up fl s6_1 (.inl (kZ, 6400, .inl (upd zA (Int32.toNatClampNeg i1) (vp_nar .boolean 0)))) = f_98 at hP hD hPI es_f_98 eq_99 eq_100 eq_101 eq_102 hfr
        obtain ⟨i_103, ei_103⟩ : ∃ y : Int32, y = i1 + 1 := ⟨_, rfl⟩
        refine lv_iinc (v := i_103) (lv' := [(1, .int i_103), (0, .ref g0)]) hx hb dX3_lookWhatIsHeld_16 hl (k := 0) rfl (by rw [ei_103]; rfl) (by decide) rfl (fun ls hl => ?_)
        have ki_103 := inc_toInt ei_103 (by omega)
        refine lv_goto (tgt := 2) hx hb dX3_lookWhatIsHeld_19 (by decide) ?_
        exact ih_2 i_103 f_98 _ _ _  (by omega) (by omega) ⟨hfr, ⟨_, ZV.mk hU fs6_1 es_f_98, zi_step hz0 (by omega) ki_103⟩⟩ hPI hP hD hS (lv_sub hl [0, 1] rfl)
  exact loop_2 6401 0 f _ _ _  (by omega) (by omega) ⟨FR.rf, ⟨_, ZV.mk hU fs6_1 e_2, fun j h9 => absurd h9 (by omega)⟩⟩ hPI hP hD hS hl

