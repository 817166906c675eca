set_option maxRecDepth 20000 in
theorem in_u_X2_fillFromLeaves_X0 : ∀ w ∈ u_ws RX0 TX0 4, w ∈ wsX2_fillFromLeaves := by decide +kernel
set_option maxRecDepth 20000 in
theorem in_u_X2_fillFromLeaves_X2 : ∀ w ∈ u_ws RX2 TX2 9, w ∈ wsX2_fillFromLeaves := by decide +kernel
set_option maxRecDepth 100000 in
set_option maxHeartbeats 4000000 in
theorem u_X2_fillFromLeaves (l : Launch) (dC : Nat → ClassId) (dI : Nat → Nat → Nat) (TT : Nat × Nat × Nat) (sz : Nat) (kT kI kJ : ClassId) (K : Nat → Nat) (L : List Nat) (f : Nat → va_E) (hPI : PI kT kI kJ K L f) (h0 : Nat) (hh0 : isr K L 2 h0) (K0 : Nat → Nat) (L0 : List Nat) (f0 : Nat → va_E) (hE00 : EXT K0 L0 K L) (hhL : isr K0 L0 2 h0) (hPI00 : PI kT kI kJ K0 L0 f0) (m0 : Nat) (ow : Nat → Nat) (qs : Nat → Nat) (cs : Nat → Int32) (V0 : Nat → Nat → Int64) (N0 : Nat → Int → Option Nat) (R0 : Nat → Option (Nat × (Nat → Int32))) (hM0 : MDf K0 L0 f0 h0 K L f ow m0 qs cs V0 N0 R0) (ll : List (Int32 × Int32 × Int64)) (hLS00 : LSt f0 (cP (f0 h0) 2) ll) : Met l yX2_fillFromLeaves wsX2_fillFromLeaves ({ frames := 3, cells := 301, slots := 6020, locals := 71 } : Room) (va_Pc [.ref h0] (pr dC dI (va_pl L f) (va_pl L f) [(kT, .object RX1), (kI, .int), (kJ, .long)] sz TT)) (va_Qi (fun (r : Int32) (u : Unit) => r = fcl m0 cs ll) (fun (_ : Unit) t => ∃ (K2 : Nat → Nat) (L2 : List Nat) (f2 : Nat → va_E), PI kT kI kJ K2 L2 f2 ∧ EXT K L K2 L2 ∧ (∃ (ow2 : Nat → Nat) (V2 : Nat → Nat → Int64) (N2 : Nat → Int → Option Nat) (R2 : Nat → Option (Nat × (Nat → Int32))), MDf K0 L0 f0 h0 K2 L2 f2 ow2 m0 qs cs V2 N2 R2 ∧ (fcl m0 cs ll = 0 → V2 = ll.foldl (fun s x => stV x s) V0 ∧ N2 = ll.foldl (fun s x => stN x s) N0 ∧ R2 = ll.foldl (fun s x => stR x s) R0)) ∧ va_P (dC, dI) vwCl (va_pl L2 f2) t.heap ∧ va_D (va_A (va_pl L f) sz) (va_pl L2 f2)) (va_A (va_pl L f) sz)) 301 6020 (va_A (va_pl L f) sz) := by
  refine Met.ofW (cc := cX2_fillFromLeaves) (maxL := 4) (ret := (some .int)) (by decide) rfl ?_
  intro p e s m args below meth c s₁ B hml hv
  obtain ⟨rfl, hsz, hP, hK, hD0, hst⟩ := hv
  have hx := B.exec
  have hb := B.bytes
  have hr := B.returns
  have hts := atoms_spec (ws := wsX2_fillFromLeaves) B.pre
  have hown : s.vm.findClass RX2 = some m.cls := findClass_of_methodNamed B.named
  have hlocks := B.notSynchronized
  have iX0_ := in_u_X2_fillFromLeaves_X0
  have iX2_ := in_u_X2_fillFromLeaves_X2
  subst hsz
  have hD := hD0.self (sz := s.heap.size)
  generalize hAe : va_A (va_pl L f) s.heap.size = A at hD hst ⊢
  have hA : ∀ q : Nat, s.heap.size ≤ q → A q := fun q h => by rw [← hAe]; exact Or.inr h
  have hS : va_S A s.heap s.heap [] := va_S.rf
  have hl := lv_entry ([.ref h0]) (n := 4) (Nat.le_of_ble_eq_true rfl)
  rw [lg_entry_eq]
  generalize (lg_sl ([.ref h0]) ++ List.replicate (4 - (lg_sl ([.ref h0])).length) Slot.unset).toArray = ls at hl ⊢
  have hl : lv_has ls 4 [(0, .ref h0)] := hl
  have km12_ : Int32.toInt (-12) = -12 := by decide
  have k0_ : Int32.toInt 0 = 0 := by decide
  refine W_nameQ (fun Q0 eQ => ?_)
  refine lv_iconst (v := 0) hx hb dX2_fillFromLeaves_0 (by decide) ?_
  refine lv_istore_n (lv' := [(1, .int 0), (0, .ref h0)]) hx hb dX2_fillFromLeaves_1 rfl hl (by decide) rfl (fun ls hl => ?_)
  have loop_2 : ∀ (n : Nat) (i1 : Int32)   (Kl : Nat → Nat) (Ll : List Nat) (fl : Nat → va_E) (cc ss : Nat) (H : Heap) (locs : List Loc) (ls : Array Slot), (0 ≤ i1.toInt ∧ i1.toInt ≤ 300) → (300 - i1.toInt).toNat < n → cc + 1 * n ≤ 301 → ss + 20 * n ≤ 6020 → EXT K L Kl Ll → (∃ (owl : Nat → Nat) (V : Nat → Nat → Int64) (N : Nat → Int → Option Nat) (R : Nat → Option (Nat × (Nat → Int32))), MDf K0 L0 f0 h0 Kl Ll fl owl m0 qs cs V N R ∧ (V = (ll.take (Int32.toNatClampNeg i1)).foldl (fun s x => stV x s) V0 ∧ N = (ll.take (Int32.toNatClampNeg i1)).foldl (fun s x => stN x s) N0 ∧ R = (ll.take (Int32.toNatClampNeg i1)).foldl (fun s x => stR x s) R0) ∧ fcl m0 cs (ll.drop (Int32.toNatClampNeg i1)) = fcl m0 cs ll) → PI kT kI kJ Kl Ll fl → va_P (dC, dI) vwCl (va_pl Ll fl) H → va_D A (va_pl Ll fl) → va_S A s.heap H locs → lv_has ls 4 [(1, .int i1), (0, .ref h0)] → W p l e (headSpec wsX2_fillFromLeaves ({ frames := 3, cells := 301, slots := 6020, locals := 71 } : Room)).room s m (([.ref h0] : List Value).toArray) below meth c H locs cc ss Q0 (F0 m 2 ls []) := by
    intro n
    induction n with
    | zero => intro i1 Kl Ll fl cc ss H locs ls  _ h9; exact absurd h9 (Nat.not_lt_zero _)
    | succ n ih_2 =>
      intro i1 Kl Ll fl cc ss H locs ls  hI hM hcc hss hE0 hFN hPI hP hD hS hl
      have fe_1 := hh0.ext hE0
      obtain ⟨owl, V, N, R, hM, ⟨hV, hN, hR⟩, hfc⟩ := hFN
      have hEl := hE00.tr hE0
      have hPIl := hPI
      have hLS := hM.ls hPI00 hhL hLS00
      obtain ⟨q1_2, pc_2, c1_2, c2_2, c3_2, q5_2, fc_2, q7_2, mc_2, e_2, fq1_2, fc1_2, fc2_2, fc3_2, fq5_2, ffc_2, fq7_2, fmc_2⟩ := hPI.a2 fe_1
      obtain ⟨k_2, hk_2⟩ := va_plg fe_1.1 e_2
      rw [ob_c1 e_2] at hLS
      obtain ⟨n_3, d_3, v_3, z_3, e_3, fn_3, fd_3, fv_3, fz_3⟩ := hPI.a0 fc1_2
      obtain ⟨k_3, hk_3⟩ := va_plg fc1_2.1 e_3
      obtain ⟨g_4, e_4⟩ := hPI.a7 fn_3
      obtain ⟨k_4, hk_4⟩ := va_plg fn_3.1 e_4
      obtain ⟨g_5, e_5⟩ := hPI.a7 fd_3
      obtain ⟨k_5, hk_5⟩ := va_plg fd_3.1 e_5
      obtain ⟨g_6, e_6⟩ := hPI.a8 fv_3
      obtain ⟨k_6, hk_6⟩ := va_plg fv_3.1 e_6
      have hL := hLS
      unfold LSt at hL
      rw [li_z e_3, li_n e_3 e_4, li_d e_3 e_5, li_v e_3 e_6] at hL
      refine lv_iload_n hx hb dX2_fillFromLeaves_2 rfl (lv_at hl 0 rfl) ?_
      refine lv_aload_n hx hb dX2_fillFromLeaves_3 rfl (lv_at hl 1 rfl) ?_
      obtain ⟨k_7, hk_7⟩ := va_plg fe_1.1 e_2
      refine va_get (D := (dC, dI)) (ci := 2) (v := .ref c1_2) (C := RX2) (T := TX2) (N := 9) hx hb hts iX2_ hown hK hP k_7 hk_7 rfl 2 (by decide) (hts (.fieldLink RX2 18 "FieldLeaves" "current" "LFieldLeaves$LeafList;") (by decide +kernel)) (fun _ h9 => h9) rfl dX2_fillFromLeaves_4 ?_
      obtain ⟨k_8, hk_8⟩ := va_plg fc1_2.1 e_3
      refine va_get (D := (dC, dI)) (ci := 0) (v := .int z_3) (C := RX0) (T := TX0) (N := 4) hx hb hts iX0_ hown hK hP k_8 hk_8 rfl 3 (by decide) (hts (.fieldLink RX2 128 "FieldLeaves$LeafList" "size" "I") (by decide +kernel)) (fun _ h9 => h9) rfl dX2_fillFromLeaves_7 ?_
      refine lv_icmp_ge (tgt := 71) hx hb dX2_fillFromLeaves_10 (by decide) (fun c_9 => ?_) (fun c_9 => ?_)
      · have c_9 := Int32.le_iff_toInt_le.mp c_9
        refine lv_iconst (v := 0) hx hb dX2_fillFromLeaves_71 (by decide) ?_
        subst eQ
        refine W.widen (k := 301) (n := 6020) (by omega) (by omega) ?_
        exact W.iret (v := 0) hx hb hr (fun t ht hW => ⟨⟨0, (), rfl, (by rw [← hfc, fcl_end hL (by omega) (by omega)]), Kl, Ll, fl, hPI, hE0, ⟨owl, V, N, R, hM, fun _ => by rw [take_all hL (by omega) (by omega)] at hV hN hR; exact ⟨hV, hN, hR⟩⟩, by rw [ht]; exact hP, hD⟩, hS.F ht⟩) hS.2.2 dX2_fillFromLeaves_72
      · have c_9 := mt Int32.le_iff_toInt_le.mpr c_9
        refine lv_aload_n hx hb dX2_fillFromLeaves_13 rfl (lv_at hl 1 rfl) ?_
        refine lv_aload_n hx hb dX2_fillFromLeaves_14 rfl (lv_at hl 1 rfl) ?_
        obtain ⟨k_10, hk_10⟩ := va_plg fe_1.1 e_2
        refine va_get (D := (dC, dI)) (ci := 2) (v := .ref c1_2) (C := RX2) (T := TX2) (N := 9) hx hb hts iX2_ hown hK hP k_10 hk_10 rfl 2 (by decide) (hts (.fieldLink RX2 18 "FieldLeaves" "current" "LFieldLeaves$LeafList;") (by decide +kernel)) (fun _ h9 => h9) rfl dX2_fillFromLeaves_15 ?_
        obtain ⟨k_11, hk_11⟩ := va_plg fc1_2.1 e_3
        refine va_get (D := (dC, dI)) (ci := 0) (v := .ref n_3) (C := RX0) (T := TX0) (N := 4) hx hb hts iX0_ hown hK hP k_11 hk_11 rfl 0 (by decide) (hts (.fieldLink RX2 134 "FieldLeaves$LeafList" "numbers" "[I") (by decide +kernel)) (fun _ h9 => h9) rfl dX2_fillFromLeaves_18 ?_
        refine lv_iload_n hx hb dX2_fillFromLeaves_21 rfl (lv_at hl 0 rfl) ?_
        obtain ⟨k_12, hk_12⟩ := va_plg fn_3.1 e_4
        have h_12 : vp_in i1 300 := (vp_in_iff.mpr (by constructor <;> omega))
        refine va_iald hx hb hK hP k_12 1 hk_12 rfl h_12 dX2_fillFromLeaves_22 ?_
        refine lv_topi (fun z_12 ez_12 => ?_)
        refine lv_i2l (v := Int32.toInt64 z_12) hx hb dX2_fillFromLeaves_23 rfl ?_
        have k_z_13 := Int32.toInt_toInt64 z_12
        obtain ⟨k_14, hk_14⟩ := va_plg fe_1.1 e_2
        refine va_callq (va_runV (b := h0) (As := [.long (Int32.toInt64 z_12)]) (rest := []) ⟨hx, hb, hml, hown, hts⟩ (u_X2_madeAs l dC dI TT H.size kT kI kJ Kl Ll fl hPI h0 fe_1 (Int32.toInt64 z_12)) (cwV 1 hts gX2_fillFromLeaves_X2_madeAs rfl rfl rfl (by decide +kernel) ⟨Nat.le_of_ble_eq_true rfl, Nat.le_of_ble_eq_true rfl⟩) ⟨pr_blind, va_recv hK hP (ci := 2) rfl hk_14, (pr_S (ws := va_pl Ll fl) (wA := []) (tys := [(kT, .object RX1), (kI, .int), (kJ, .long)]) hP hK vd_nil hst hS (ro_free hS hA)).2⟩ rfl rfl hl.1 rfl (lv_room (Nat.le_of_ble_eq_true rfl)) dX2_fillFromLeaves_24 ⟨(show cc + 0 ≤ 301 by omega), (show ss + 0 ≤ 6020 by omega)⟩) hS (fun q _ h => (ro_free hS hA) q h) (ro_free hS hA) (fun r_15 u t H1 locs ht hvm hw hB hz1 hk1 hS => ?_)
        have hP := ro_keep hP hk1
        generalize H1 = H at hP hS ⊢
        obtain ⟨hw, hq_16⟩ := hw
        rcases r_15 with _ | y_17
        · refine W.eq (g2 := F0 m 27 ls [.null]) rfl ?_
          refine lv_astore_nN (lv' := [(2, .null), (1, .int i1), (0, .ref h0)]) hx hb dX2_fillFromLeaves_27 rfl hl (by decide) rfl (fun ls hl => ?_)
          refine lv_aload_nN hx hb dX2_fillFromLeaves_28 rfl (lv_at hl 0 rfl) ?_
          refine lv_ifnonnullN hx hb dX2_fillFromLeaves_29 ?_
          refine lv_bipush (v := (-12)) hx hb dX2_fillFromLeaves_32 (by decide) ?_
          subst eQ
          refine W.widen (k := 301) (n := 6020) (by omega) (by omega) ?_
          exact W.iret (v := (-12)) hx hb hr (fun t ht hW => ⟨⟨(-12), (), rfl, (show fcl m0 cs ll = -12 from hfc.symm.trans (by rw [fcl_hit hL (by omega) (by omega) (by rw [(fcd_out (by show ¬ (0 ≤ Int32.toInt _ ∧ _); rw [← ez_12]; exact ma_none hM hq_16))]; decide), (fcd_out (by show ¬ (0 ≤ Int32.toInt _ ∧ _); rw [← ez_12]; exact ma_none hM hq_16))])).symm, Kl, Ll, fl, hPI, hE0, ⟨owl, V, N, R, hM, fun h9 => absurd h9 (by rw [show fcl m0 cs ll = -12 from hfc.symm.trans (by rw [fcl_hit hL (by omega) (by omega) (by rw [(fcd_out (by show ¬ (0 ≤ Int32.toInt _ ∧ _); rw [← ez_12]; exact ma_none hM hq_16))]; decide), (fcd_out (by show ¬ (0 ≤ Int32.toInt _ ∧ _); rw [← ez_12]; exact ma_none hM hq_16))])]; decide)⟩, by rw [ht]; exact hP, hD⟩, hS.F ht⟩) hS.2.2 dX2_fillFromLeaves_34
        · have fy_17 := hw y_17 rfl
          refine W.eq (g2 := F0 m 27 ls [.ref y_17]) rfl ?_
          refine lv_astore_n (lv' := [(2, .ref y_17), (1, .int i1), (0, .ref h0)]) hx hb dX2_fillFromLeaves_27 rfl hl (by decide) rfl (fun ls hl => ?_)
          refine lv_aload_n hx hb dX2_fillFromLeaves_28 rfl (lv_at hl 0 rfl) ?_
          refine lv_ifnonnull (tgt := 35) hx hb dX2_fillFromLeaves_29 (by decide) ?_
          refine lv_aload_n hx hb dX2_fillFromLeaves_35 rfl (lv_at hl 2 rfl) ?_
          refine lv_aload_n hx hb dX2_fillFromLeaves_36 rfl (lv_at hl 0 rfl) ?_
          refine lv_aload_n hx hb dX2_fillFromLeaves_37 rfl (lv_at hl 2 rfl) ?_
          obtain ⟨k_18, hk_18⟩ := va_plg fe_1.1 e_2
          refine va_get (D := (dC, dI)) (ci := 2) (v := .ref c1_2) (C := RX2) (T := TX2) (N := 9) hx hb hts iX2_ hown hK hP k_18 hk_18 rfl 2 (by decide) (hts (.fieldLink RX2 18 "FieldLeaves" "current" "LFieldLeaves$LeafList;") (by decide +kernel)) (fun _ h9 => h9) rfl dX2_fillFromLeaves_38 ?_
          obtain ⟨k_19, hk_19⟩ := va_plg fc1_2.1 e_3
          refine va_get (D := (dC, dI)) (ci := 0) (v := .ref d_3) (C := RX0) (T := TX0) (N := 4) hx hb hts iX0_ hown hK hP k_19 hk_19 rfl 1 (by decide) (hts (.fieldLink RX2 137 "FieldLeaves$LeafList" "fields" "[I") (by decide +kernel)) (fun _ h9 => h9) rfl dX2_fillFromLeaves_41 ?_
          refine lv_iload_n hx hb dX2_fillFromLeaves_44 rfl (lv_at hl 1 rfl) ?_
          obtain ⟨k_20, hk_20⟩ := va_plg fd_3.1 e_5
          have h_20 : vp_in i1 300 := (vp_in_iff.mpr (by constructor <;> omega))
          refine va_iald hx hb hK hP k_20 1 hk_20 rfl h_20 dX2_fillFromLeaves_45 ?_
          refine lv_topi (fun z_20 ez_20 => ?_)
          refine lv_aload_n hx hb dX2_fillFromLeaves_46 rfl (lv_at hl 2 rfl) ?_
          obtain ⟨k_21, hk_21⟩ := va_plg fe_1.1 e_2
          refine va_get (D := (dC, dI)) (ci := 2) (v := .ref c1_2) (C := RX2) (T := TX2) (N := 9) hx hb hts iX2_ hown hK hP k_21 hk_21 rfl 2 (by decide) (hts (.fieldLink RX2 18 "FieldLeaves" "current" "LFieldLeaves$LeafList;") (by decide +kernel)) (fun _ h9 => h9) rfl dX2_fillFromLeaves_47 ?_
          obtain ⟨k_22, hk_22⟩ := va_plg fc1_2.1 e_3
          refine va_get (D := (dC, dI)) (ci := 0) (v := .ref v_3) (C := RX0) (T := TX0) (N := 4) hx hb hts iX0_ hown hK hP k_22 hk_22 rfl 2 (by decide) (hts (.fieldLink RX2 140 "FieldLeaves$LeafList" "values" "[J") (by decide +kernel)) (fun _ h9 => h9) rfl dX2_fillFromLeaves_50 ?_
          refine lv_iload_n hx hb dX2_fillFromLeaves_53 rfl (lv_at hl 1 rfl) ?_
          obtain ⟨k_23, hk_23⟩ := va_plg fv_3.1 e_6
          have h_23 : vp_in i1 300 := (vp_in_iff.mpr (by constructor <;> omega))
          refine va_lald hx hb hK hP k_23 2 hk_23 rfl h_23 dX2_fillFromLeaves_54 ?_
          refine lv_topl (fun z_23 ez_23 => ?_)
          obtain ⟨hra, hya⟩ := ma_some hM hq_16
          have hFc := pl_free hD hS hA
          obtain ⟨k_24, hk_24⟩ := va_plg fe_1.1 e_2
          refine va_calli (va_runV (b := h0) (As := [.ref y_17, .int z_20, .long z_23]) (rest := []) ⟨hx, hb, hml, hown, hts⟩ (u_X2_fillField l dC dI TT H.size kT kI kJ Kl Ll fl hPI h0 fe_1 y_17 fy_17 z_20 z_23) (cwV 3 hts gX2_fillFromLeaves_X2_fillField rfl rfl rfl (by decide +kernel) ⟨Nat.le_of_ble_eq_true rfl, Nat.le_of_ble_eq_true rfl⟩) ⟨pr_blind, va_recv hK hP (ci := 2) rfl hk_24, (pr_S (ws := va_pl Ll fl) (wA := va_pl Ll fl) (tys := [(kT, .object RX1), (kI, .int), (kJ, .long)]) hP hK (hD.weaken (fun _ _ _ _ => trivial)) hst hS hFc).2⟩ rfl rfl hl.1 rfl (lv_room (Nat.le_of_ble_eq_true rfl)) dX2_fillFromLeaves_55 ⟨(show cc + 1 ≤ 301 by omega), (show ss + 20 ≤ 6020 by omega)⟩) hS (fun q _ h => hFc q h) hFc (fun r_25 u t H1 locs ht hvm hw hB hz1 hk1 hS => ?_)
          obtain ⟨K_27, L_28, f_26, hPI, hE, hrel, hP, hD9⟩ := hB
          rw [ht] at hP
          have hD := hD9.weaken (fun _ q _ h => hFc q.1 h)
          have fe_29 := fy_17.ext hE
          have fe_30 := fe_1.ext hE
          have hE0 := EXT.tr hE0 hE
          generalize H1 = H at hP hS ⊢
          have hq_31 := hw
          rw [hya] at hrel
          obtain ⟨hfx, ow2, V2, N2, R2, hM2, hst⟩ := fill_step hhL hEl hPIl hM hra hrel
          refine lv_istore_n (lv' := [(3, .int r_25), (2, .ref y_17), (1, .int i1), (0, .ref h0)]) hx hb dX2_fillFromLeaves_58 rfl hl (by decide) rfl (fun ls hl => ?_)
          refine lv_iload_n hx hb dX2_fillFromLeaves_59 rfl (lv_at hl 0 rfl) ?_
          refine lv_if_eq (tgt := 65) hx hb dX2_fillFromLeaves_60 (by decide) (fun c_32 => ?_) (fun c_32 => ?_)
          · have c_32 := congrArg Int32.toInt c_32
            obtain ⟨i_33, ei_33⟩ : ∃ y : Int32, y = i1 + 1 := ⟨_, rfl⟩
            refine lv_iinc (v := i_33) (lv' := [(1, .int i_33), (3, .int r_25), (2, .ref y_17), (0, .ref h0)]) hx hb dX2_fillFromLeaves_65 hl (k := 2) rfl (by rw [ei_33]; rfl) (by decide) rfl (fun ls hl => ?_)
            have ki_33 := inc_toInt ei_33 (by omega)
            refine lv_goto (tgt := 2) hx hb dX2_fillFromLeaves_68 (by decide) ?_
            exact ih_2 i_33 K_27 L_28 f_26 (cc + 1) (ss + 20) _ _ _  (by omega) (by omega) (by omega) (by omega) hE0 ⟨ow2, V2, N2, R2, hM2, ⟨by rw [take_at (i2 := i_33) hL (by omega) (by omega) ki_33, ← ez_12, ← ez_20, ← ez_23, List.foldl_append, ← hV, (hst (show fcd m0 cs (z_12, z_20, z_23) = 0 from by rw [← hfx, ← hq_31]; exact Int32.toInt_inj.mp (by omega))).1]; rfl, by rw [take_at (i2 := i_33) hL (by omega) (by omega) ki_33, ← ez_12, ← ez_20, ← ez_23, List.foldl_append, ← hN, (hst (show fcd m0 cs (z_12, z_20, z_23) = 0 from by rw [← hfx, ← hq_31]; exact Int32.toInt_inj.mp (by omega))).2.1]; rfl, by rw [take_at (i2 := i_33) hL (by omega) (by omega) ki_33, ← ez_12, ← ez_20, ← ez_23, List.foldl_append, ← hR, (hst (show fcd m0 cs (z_12, z_20, z_23) = 0 from by rw [← hfx, ← hq_31]; exact Int32.toInt_inj.mp (by omega))).2.2]; rfl⟩, by rw [← fcl_next (i2 := i_33) hL (by omega) (by omega) (by rw [← ez_12, ← ez_20, ← ez_23]; exact (show fcd m0 cs (z_12, z_20, z_23) = 0 from by rw [← hfx, ← hq_31]; exact Int32.toInt_inj.mp (by omega))) ki_33]; exact hfc⟩ hPI hP hD hS (lv_sub hl [0, 3] rfl)
          · have c_32 := mt Int32.toInt_inj.mp c_32
            refine lv_iload_n hx hb dX2_fillFromLeaves_63 rfl (lv_at hl 0 rfl) ?_
            subst eQ
            refine W.widen (k := 301) (n := 6020) (by omega) (by omega) ?_
            exact W.iret (v := r_25) hx hb hr (fun t ht hW => ⟨⟨r_25, (), rfl, (by rw [show fcl m0 cs ll = fcd m0 cs (z_12, z_20, z_23) from hfc.symm.trans (by rw [fcl_hit hL (by omega) (by omega) (by rw [← ez_12, ← ez_20, ← ez_23]; exact (show ¬ fcd m0 cs (z_12, z_20, z_23) = 0 from by rw [← hfx, ← hq_31]; exact mt (congrArg Int32.toInt) (by omega))), ← ez_12, ← ez_20, ← ez_23]), ← hfx]; exact hq_31), K_27, L_28, f_26, hPI, hE0, ⟨ow2, V2, N2, R2, hM2, fun h9 => absurd h9 (by rw [show fcl m0 cs ll = fcd m0 cs (z_12, z_20, z_23) from hfc.symm.trans (by rw [fcl_hit hL (by omega) (by omega) (by rw [← ez_12, ← ez_20, ← ez_23]; exact (show ¬ fcd m0 cs (z_12, z_20, z_23) = 0 from by rw [← hfx, ← hq_31]; exact mt (congrArg Int32.toInt) (by omega))), ← ez_12, ← ez_20, ← ez_23])]; exact (show ¬ fcd m0 cs (z_12, z_20, z_23) = 0 from by rw [← hfx, ← hq_31]; exact mt (congrArg Int32.toInt) (by omega)))⟩, by rw [ht]; exact hP, hD⟩, hS.F ht⟩) hS.2.2 dX2_fillFromLeaves_64
  exact loop_2 301 0 K L f (0) (0) _ _ _  (by omega) (by omega) (by omega) (by omega) EXT.rf ⟨ow, V0, N0, R0, hM0, by rw [cl_0]; exact ⟨rfl, rfl, rfl⟩, by rw [cl_0]; rfl⟩ hPI hP hD hS hl

