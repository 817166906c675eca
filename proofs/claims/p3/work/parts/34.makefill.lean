set_option maxRecDepth 20000 in
theorem in_t_X2_fillFromLeaves_X0 : ∀ w ∈ u_ws RX0 TX0 4, w ∈ wsX2_fillFromLeaves := by decide +kernel
set_option maxRecDepth 20000 in
theorem in_t_X2_fillFromLeaves_X2 : ∀ w ∈ u_ws RX2 TX2 9, w ∈ wsX2_fillFromLeaves := by decide +kernel
set_option maxRecDepth 100000 in
set_option maxHeartbeats 4000000 in
theorem t_X2_fillFromLeaves (l : Launch) (dC : Nat → ClassId) (dI : Nat → Nat → Nat) (TT : Nat × Nat × Nat) (sz : Nat) (kT kI kJ : ClassId) (K : Nat → Nat) (L : List Nat) (f : Nat → va_E) (hPI : PI kT kI kJ K L f) (h0 : Nat) (hh0 : isr K L 2 h0) : Met l yX2_fillFromLeaves wsX2_fillFromLeaves ({ frames := 3, cells := 301, slots := 6020, locals := 71 } : Room) (va_Pc [.ref h0] (pr dC dI (va_pl L f) (va_pl L f) [(kT, .object RX1), (kI, .int), (kJ, .long)] sz TT)) (va_Qi (fun (r : Int32) (u : Unit) => True) (fun (_ : Unit) t => ∃ (K2 : Nat → Nat) (L2 : List Nat) (f2 : Nat → va_E), PI kT kI kJ K2 L2 f2 ∧ EXT K L K2 L2 ∧ va_P (dC, dI) vwCl (va_pl L2 f2) t.heap ∧ va_D (va_A (va_pl L f) sz) (va_pl L2 f2)) (va_A (va_pl L f) sz)) 301 6020 (va_A (va_pl L f) sz) := by
  refine Met.ofW (cc := cX2_fillFromLeaves) (maxL := 4) (ret := (some .int)) (by decide) rfl ?_
  intro p e s m args below meth c s₁ B hml hv
  obtain ⟨rfl, hsz, hP, hK, hD0, hst⟩ := hv
  have hx := B.exec
  have hb := B.bytes
  have hr := B.returns
  have hts := atoms_spec (ws := wsX2_fillFromLeaves) B.pre
  have hown : s.vm.findClass RX2 = some m.cls := findClass_of_methodNamed B.named
  have hlocks := B.notSynchronized
  have iX0_ := in_t_X2_fillFromLeaves_X0
  have iX2_ := in_t_X2_fillFromLeaves_X2
  subst hsz
  have hD := hD0.self (sz := s.heap.size)
  generalize hAe : va_A (va_pl L f) s.heap.size = A at hD hst ⊢
  have hA : ∀ q : Nat, s.heap.size ≤ q → A q := fun q h => by rw [← hAe]; exact Or.inr h
  have hS : va_S A s.heap s.heap [] := va_S.rf
  have hl := lv_entry ([.ref h0]) (n := 4) (Nat.le_of_ble_eq_true rfl)
  rw [lg_entry_eq]
  generalize (lg_sl ([.ref h0]) ++ List.replicate (4 - (lg_sl ([.ref h0])).length) Slot.unset).toArray = ls at hl ⊢
  have hl : lv_has ls 4 [(0, .ref h0)] := hl
  have km12_ : Int32.toInt (-12) = -12 := by decide
  have k0_ : Int32.toInt 0 = 0 := by decide
  refine W_nameQ (fun Q0 eQ => ?_)
  refine lv_iconst (v := 0) hx hb dX2_fillFromLeaves_0 (by decide) ?_
  refine lv_istore_n (lv' := [(1, .int 0), (0, .ref h0)]) hx hb dX2_fillFromLeaves_1 rfl hl (by decide) rfl (fun ls hl => ?_)
  have loop_2 : ∀ (n : Nat) (i1 : Int32)   (Kl : Nat → Nat) (Ll : List Nat) (fl : Nat → va_E) (cc ss : Nat) (H : Heap) (locs : List Loc) (ls : Array Slot), (0 ≤ i1.toInt ∧ i1.toInt ≤ 300) → (300 - i1.toInt).toNat < n → cc + 1 * n ≤ 301 → ss + 20 * n ≤ 6020 → EXT K L Kl Ll → PI kT kI kJ Kl Ll fl → va_P (dC, dI) vwCl (va_pl Ll fl) H → va_D A (va_pl Ll fl) → va_S A s.heap H locs → lv_has ls 4 [(1, .int i1), (0, .ref h0)] → W p l e (headSpec wsX2_fillFromLeaves ({ frames := 3, cells := 301, slots := 6020, locals := 71 } : Room)).room s m (([.ref h0] : List Value).toArray) below meth c H locs cc ss Q0 (F0 m 2 ls []) := by
    intro n
    induction n with
    | zero => intro i1 Kl Ll fl cc ss H locs ls  _ h9; exact absurd h9 (Nat.not_lt_zero _)
    | succ n ih_2 =>
      intro i1 Kl Ll fl cc ss H locs ls  hI hM hcc hss hE0 hPI hP hD hS hl
      have fe_1 := hh0.ext hE0
      refine lv_iload_n hx hb dX2_fillFromLeaves_2 rfl (lv_at hl 0 rfl) ?_
      refine lv_aload_n hx hb dX2_fillFromLeaves_3 rfl (lv_at hl 1 rfl) ?_
      obtain ⟨q1_2, pc_2, c1_2, c2_2, c3_2, q5_2, fc_2, q7_2, mc_2, e_2, fq1_2, fc1_2, fc2_2, fc3_2, fq5_2, ffc_2, fq7_2, fmc_2⟩ := hPI.a2 fe_1
      obtain ⟨k_2, hk_2⟩ := va_plg fe_1.1 e_2
      refine va_get (D := (dC, dI)) (ci := 2) (v := .ref c1_2) (C := RX2) (T := TX2) (N := 9) hx hb hts iX2_ hown hK hP k_2 hk_2 rfl 2 (by decide) (hts (.fieldLink RX2 18 "FieldLeaves" "current" "LFieldLeaves$LeafList;") (by decide +kernel)) (fun _ h9 => h9) rfl dX2_fillFromLeaves_4 ?_
      obtain ⟨n_3, d_3, v_3, z_3, e_3, fn_3, fd_3, fv_3, fz_3⟩ := hPI.a0 fc1_2
      obtain ⟨k_3, hk_3⟩ := va_plg fc1_2.1 e_3
      refine va_get (D := (dC, dI)) (ci := 0) (v := .int z_3) (C := RX0) (T := TX0) (N := 4) hx hb hts iX0_ hown hK hP k_3 hk_3 rfl 3 (by decide) (hts (.fieldLink RX2 128 "FieldLeaves$LeafList" "size" "I") (by decide +kernel)) (fun _ h9 => h9) rfl dX2_fillFromLeaves_7 ?_
      refine lv_icmp_ge (tgt := 71) hx hb dX2_fillFromLeaves_10 (by decide) (fun c_4 => ?_) (fun c_4 => ?_)
      · have c_4 := Int32.le_iff_toInt_le.mp c_4
        refine lv_iconst (v := 0) hx hb dX2_fillFromLeaves_71 (by decide) ?_
        subst eQ
        refine W.widen (k := 301) (n := 6020) (by omega) (by omega) ?_
        exact W.iret (v := 0) hx hb hr (fun t ht hW => ⟨⟨0, (), rfl, trivial, Kl, Ll, fl, hPI, hE0, by rw [ht]; exact hP, hD⟩, hS.F ht⟩) hS.2.2 dX2_fillFromLeaves_72
      · have c_4 := mt Int32.le_iff_toInt_le.mpr c_4
        refine lv_aload_n hx hb dX2_fillFromLeaves_13 rfl (lv_at hl 1 rfl) ?_
        refine lv_aload_n hx hb dX2_fillFromLeaves_14 rfl (lv_at hl 1 rfl) ?_
        obtain ⟨k_5, hk_5⟩ := va_plg fe_1.1 e_2
        refine va_get (D := (dC, dI)) (ci := 2) (v := .ref c1_2) (C := RX2) (T := TX2) (N := 9) hx hb hts iX2_ hown hK hP k_5 hk_5 rfl 2 (by decide) (hts (.fieldLink RX2 18 "FieldLeaves" "current" "LFieldLeaves$LeafList;") (by decide +kernel)) (fun _ h9 => h9) rfl dX2_fillFromLeaves_15 ?_
        obtain ⟨k_6, hk_6⟩ := va_plg fc1_2.1 e_3
        refine va_get (D := (dC, dI)) (ci := 0) (v := .ref n_3) (C := RX0) (T := TX0) (N := 4) hx hb hts iX0_ hown hK hP k_6 hk_6 rfl 0 (by decide) (hts (.fieldLink RX2 134 "FieldLeaves$LeafList" "numbers" "[I") (by decide +kernel)) (fun _ h9 => h9) rfl dX2_fillFromLeaves_18 ?_
        refine lv_iload_n hx hb dX2_fillFromLeaves_21 rfl (lv_at hl 0 rfl) ?_
        obtain ⟨g_7, e_7⟩ := hPI.a7 fn_3
        obtain ⟨k_7, hk_7⟩ := va_plg fn_3.1 e_7
        have h_7 : vp_in i1 300 := (vp_in_iff.mpr (by constructor <;> omega))
        refine va_iald hx hb hK hP k_7 1 hk_7 rfl h_7 dX2_fillFromLeaves_22 ?_
        refine lv_topi (fun z_7 ez_7 => ?_)
        refine lv_i2l (v := Int32.toInt64 z_7) hx hb dX2_fillFromLeaves_23 rfl ?_
        have k_z_8 := Int32.toInt_toInt64 z_7
        obtain ⟨k_9, hk_9⟩ := va_plg fe_1.1 e_2
        refine va_callq (va_runV (b := h0) (As := [.long (Int32.toInt64 z_7)]) (rest := []) ⟨hx, hb, hml, hown, hts⟩ (t_X2_madeAs l dC dI TT H.size kT kI kJ Kl Ll fl hPI h0 fe_1 (Int32.toInt64 z_7)) (cwV 1 hts gX2_fillFromLeaves_X2_madeAs rfl rfl rfl (by decide +kernel) ⟨Nat.le_of_ble_eq_true rfl, Nat.le_of_ble_eq_true rfl⟩) ⟨pr_blind, va_recv hK hP (ci := 2) rfl hk_9, (pr_S (ws := va_pl Ll fl) (wA := []) (tys := [(kT, .object RX1), (kI, .int), (kJ, .long)]) hP hK vd_nil hst hS (ro_free hS hA)).2⟩ rfl rfl hl.1 rfl (lv_room (Nat.le_of_ble_eq_true rfl)) dX2_fillFromLeaves_24 ⟨(show cc + 0 ≤ 301 by omega), (show ss + 0 ≤ 6020 by omega)⟩) hS (fun q _ h => (ro_free hS hA) q h) (ro_free hS hA) (fun r_10 u t H1 locs ht hvm hw hB hz1 hk1 hS => ?_)
        have hP := ro_keep hP hk1
        generalize H1 = H at hP hS ⊢
        rcases r_10 with _ | y_11
        · refine W.eq (g2 := F0 m 27 ls [.null]) rfl ?_
          refine lv_astore_nN (lv' := [(2, .null), (1, .int i1), (0, .ref h0)]) hx hb dX2_fillFromLeaves_27 rfl hl (by decide) rfl (fun ls hl => ?_)
          refine lv_aload_nN hx hb dX2_fillFromLeaves_28 rfl (lv_at hl 0 rfl) ?_
          refine lv_ifnonnullN hx hb dX2_fillFromLeaves_29 ?_
          refine lv_bipush (v := (-12)) hx hb dX2_fillFromLeaves_32 (by decide) ?_
          subst eQ
          refine W.widen (k := 301) (n := 6020) (by omega) (by omega) ?_
          exact W.iret (v := (-12)) hx hb hr (fun t ht hW => ⟨⟨(-12), (), rfl, trivial, Kl, Ll, fl, hPI, hE0, by rw [ht]; exact hP, hD⟩, hS.F ht⟩) hS.2.2 dX2_fillFromLeaves_34
        · have fy_11 := hw y_11 rfl
          refine W.eq (g2 := F0 m 27 ls [.ref y_11]) rfl ?_
          refine lv_astore_n (lv' := [(2, .ref y_11), (1, .int i1), (0, .ref h0)]) hx hb dX2_fillFromLeaves_27 rfl hl (by decide) rfl (fun ls hl => ?_)
          refine lv_aload_n hx hb dX2_fillFromLeaves_28 rfl (lv_at hl 0 rfl) ?_
          refine lv_ifnonnull (tgt := 35) hx hb dX2_fillFromLeaves_29 (by decide) ?_
          refine lv_aload_n hx hb dX2_fillFromLeaves_35 rfl (lv_at hl 2 rfl) ?_
          refine lv_aload_n hx hb dX2_fillFromLeaves_36 rfl (lv_at hl 0 rfl) ?_
          refine lv_aload_n hx hb dX2_fillFromLeaves_37 rfl (lv_at hl 2 rfl) ?_
          obtain ⟨k_12, hk_12⟩ := va_plg fe_1.1 e_2
          refine va_get (D := (dC, dI)) (ci := 2) (v := .ref c1_2) (C := RX2) (T := TX2) (N := 9) hx hb hts iX2_ hown hK hP k_12 hk_12 rfl 2 (by decide) (hts (.fieldLink RX2 18 "FieldLeaves" "current" "LFieldLeaves$LeafList;") (by decide +kernel)) (fun _ h9 => h9) rfl dX2_fillFromLeaves_38 ?_
          obtain ⟨k_13, hk_13⟩ := va_plg fc1_2.1 e_3
          refine va_get (D := (dC, dI)) (ci := 0) (v := .ref d_3) (C := RX0) (T := TX0) (N := 4) hx hb hts iX0_ hown hK hP k_13 hk_13 rfl 1 (by decide) (hts (.fieldLink RX2 137 "FieldLeaves$LeafList" "fields" "[I") (by decide +kernel)) (fun _ h9 => h9) rfl dX2_fillFromLeaves_41 ?_
          refine lv_iload_n hx hb dX2_fillFromLeaves_44 rfl (lv_at hl 1 rfl) ?_
          obtain ⟨g_14, e_14⟩ := hPI.a7 fd_3
          obtain ⟨k_14, hk_14⟩ := va_plg fd_3.1 e_14
          have h_14 : vp_in i1 300 := (vp_in_iff.mpr (by constructor <;> omega))
          refine va_iald hx hb hK hP k_14 1 hk_14 rfl h_14 dX2_fillFromLeaves_45 ?_
          refine lv_topi (fun z_14 ez_14 => ?_)
          refine lv_aload_n hx hb dX2_fillFromLeaves_46 rfl (lv_at hl 2 rfl) ?_
          obtain ⟨k_15, hk_15⟩ := va_plg fe_1.1 e_2
          refine va_get (D := (dC, dI)) (ci := 2) (v := .ref c1_2) (C := RX2) (T := TX2) (N := 9) hx hb hts iX2_ hown hK hP k_15 hk_15 rfl 2 (by decide) (hts (.fieldLink RX2 18 "FieldLeaves" "current" "LFieldLeaves$LeafList;") (by decide +kernel)) (fun _ h9 => h9) rfl dX2_fillFromLeaves_47 ?_
          obtain ⟨k_16, hk_16⟩ := va_plg fc1_2.1 e_3
          refine va_get (D := (dC, dI)) (ci := 0) (v := .ref v_3) (C := RX0) (T := TX0) (N := 4) hx hb hts iX0_ hown hK hP k_16 hk_16 rfl 2 (by decide) (hts (.fieldLink RX2 140 "FieldLeaves$LeafList" "values" "[J") (by decide +kernel)) (fun _ h9 => h9) rfl dX2_fillFromLeaves_50 ?_
          refine lv_iload_n hx hb dX2_fillFromLeaves_53 rfl (lv_at hl 1 rfl) ?_
          obtain ⟨g_17, e_17⟩ := hPI.a8 fv_3
          obtain ⟨k_17, hk_17⟩ := va_plg fv_3.1 e_17
          have h_17 : vp_in i1 300 := (vp_in_iff.mpr (by constructor <;> omega))
          refine va_lald hx hb hK hP k_17 2 hk_17 rfl h_17 dX2_fillFromLeaves_54 ?_
          refine lv_topl (fun z_17 ez_17 => ?_)
          have hFc := pl_free hD hS hA
          obtain ⟨k_18, hk_18⟩ := va_plg fe_1.1 e_2
          refine va_calli (va_runV (b := h0) (As := [.ref y_11, .int z_14, .long z_17]) (rest := []) ⟨hx, hb, hml, hown, hts⟩ (t_X2_fillField l dC dI TT H.size kT kI kJ Kl Ll fl hPI h0 fe_1 y_11 fy_11 z_14 z_17) (cwV 3 hts gX2_fillFromLeaves_X2_fillField rfl rfl rfl (by decide +kernel) ⟨Nat.le_of_ble_eq_true rfl, Nat.le_of_ble_eq_true rfl⟩) ⟨pr_blind, va_recv hK hP (ci := 2) rfl hk_18, (pr_S (ws := va_pl Ll fl) (wA := va_pl Ll fl) (tys := [(kT, .object RX1), (kI, .int), (kJ, .long)]) hP hK (hD.weaken (fun _ _ _ _ => trivial)) hst hS hFc).2⟩ rfl rfl hl.1 rfl (lv_room (Nat.le_of_ble_eq_true rfl)) dX2_fillFromLeaves_55 ⟨(show cc + 1 ≤ 301 by omega), (show ss + 20 ≤ 6020 by omega)⟩) hS (fun q _ h => hFc q h) hFc (fun r_19 u t H1 locs ht hvm hw hB hz1 hk1 hS => ?_)
          obtain ⟨K_21, L_22, f_20, hPI, hE, hP, hD9⟩ := hB
          rw [ht] at hP
          have hD := hD9.weaken (fun _ q _ h => hFc q.1 h)
          have fe_23 := fy_11.ext hE
          have fe_24 := fe_1.ext hE
          have hE0 := EXT.tr hE0 hE
          generalize H1 = H at hP hS ⊢
          refine lv_istore_n (lv' := [(3, .int r_19), (2, .ref y_11), (1, .int i1), (0, .ref h0)]) hx hb dX2_fillFromLeaves_58 rfl hl (by decide) rfl (fun ls hl => ?_)
          refine lv_iload_n hx hb dX2_fillFromLeaves_59 rfl (lv_at hl 0 rfl) ?_
          refine lv_if_eq (tgt := 65) hx hb dX2_fillFromLeaves_60 (by decide) (fun c_25 => ?_) (fun c_25 => ?_)
          · have c_25 := congrArg Int32.toInt c_25
            obtain ⟨i_26, ei_26⟩ : ∃ y : Int32, y = i1 + 1 := ⟨_, rfl⟩
            refine lv_iinc (v := i_26) (lv' := [(1, .int i_26), (3, .int r_19), (2, .ref y_11), (0, .ref h0)]) hx hb dX2_fillFromLeaves_65 hl (k := 2) rfl (by rw [ei_26]; rfl) (by decide) rfl (fun ls hl => ?_)
            have ki_26 := inc_toInt ei_26 (by omega)
            refine lv_goto (tgt := 2) hx hb dX2_fillFromLeaves_68 (by decide) ?_
            exact ih_2 i_26 K_21 L_22 f_20 (cc + 1) (ss + 20) _ _ _  (by omega) (by omega) (by omega) (by omega) hE0 hPI hP hD hS (lv_sub hl [0, 3] rfl)
          · have c_25 := mt Int32.toInt_inj.mp c_25
            refine lv_iload_n hx hb dX2_fillFromLeaves_63 rfl (lv_at hl 0 rfl) ?_
            subst eQ
            refine W.widen (k := 301) (n := 6020) (by omega) (by omega) ?_
            exact W.iret (v := r_19) hx hb hr (fun t ht hW => ⟨⟨r_19, (), rfl, trivial, K_21, L_22, f_20, hPI, hE0, by rw [ht]; exact hP, hD⟩, hS.F ht⟩) hS.2.2 dX2_fillFromLeaves_64
  exact loop_2 301 0 K L f (0) (0) _ _ _  (by omega) (by omega) (by omega) (by omega) EXT.rf hPI hP hD hS hl
set_option maxRecDepth 20000 in
theorem in_t_X2_makeFromLeaves_X0 : ∀ w ∈ u_ws RX0 TX0 4, w ∈ wsX2_makeFromLeaves := by decide +kernel
set_option maxRecDepth 20000 in
theorem in_t_X2_makeFromLeaves_X1 : ∀ w ∈ u_ws RX1 TX1 6, w ∈ wsX2_makeFromLeaves := by decide +kernel
set_option maxRecDepth 20000 in
theorem in_t_X2_makeFromLeaves_X2 : ∀ w ∈ u_ws RX2 TX2 9, w ∈ wsX2_makeFromLeaves := by decide +kernel
set_option maxRecDepth 100000 in
set_option maxHeartbeats 4000000 in
theorem t_X2_makeFromLeaves (l : Launch) (dC : Nat → ClassId) (dI : Nat → Nat → Nat) (TT : Nat × Nat × Nat) (sz : Nat) (kT kI kJ : ClassId) (K : Nat → Nat) (L : List Nat) (f : Nat → va_E) (hPI : PI kT kI kJ K L f) (h0 : Nat) (hh0 : isr K L 2 h0) : Met l yX2_makeFromLeaves wsX2_makeFromLeaves ({ frames := 3, cells := 602, slots := 6923, locals := 65 } : Room) (va_Pc [.ref h0] (pr dC dI (va_pl L f) (va_pl L f) [(kT, .object RX1), (kI, .int), (kJ, .long)] sz TT)) (va_Qi (fun (r : Int32) (u : Unit) => True) (fun (_ : Unit) t => ∃ (K2 : Nat → Nat) (L2 : List Nat) (f2 : Nat → va_E), PI kT kI kJ K2 L2 f2 ∧ EXT K L K2 L2 ∧ va_P (dC, dI) vwCl (va_pl L2 f2) t.heap ∧ va_D (va_A (va_pl L f) sz) (va_pl L2 f2)) (va_A (va_pl L f) sz)) 602 6923 (va_A (va_pl L f) sz) := by
  refine Met.ofW (cc := cX2_makeFromLeaves) (maxL := 4) (ret := (some .int)) (by decide) rfl ?_
  intro p e s m args below meth c s₁ B hml hv
  obtain ⟨rfl, hsz, hP, hK, hD0, hst⟩ := hv
  have hx := B.exec
  have hb := B.bytes
  have hr := B.returns
  have hts := atoms_spec (ws := wsX2_makeFromLeaves) B.pre
  have hown : s.vm.findClass RX2 = some m.cls := findClass_of_methodNamed B.named
  have hlocks := B.notSynchronized
  have iX0_ := in_t_X2_makeFromLeaves_X0
  have iX1_ := in_t_X2_makeFromLeaves_X1
  have iX2_ := in_t_X2_makeFromLeaves_X2
  subst hsz
  have hD := hD0.self (sz := s.heap.size)
  generalize hAe : va_A (va_pl L f) s.heap.size = A at hD hst ⊢
  have hA : ∀ q : Nat, s.heap.size ≤ q → A q := fun q h => by rw [← hAe]; exact Or.inr h
  have hS : va_S A s.heap s.heap [] := va_S.rf
  have hl := lv_entry ([.ref h0]) (n := 4) (Nat.le_of_ble_eq_true rfl)
  rw [lg_entry_eq]
  generalize (lg_sl ([.ref h0]) ++ List.replicate (4 - (lg_sl ([.ref h0])).length) Slot.unset).toArray = ls at hl ⊢
  have hl : lv_has ls 4 [(0, .ref h0)] := hl
  have km18_ : Int32.toInt (-18) = -18 := by decide
  have km1_ : Int32.toInt (-1) = -1 := by decide
  have k0_ : Int32.toInt 0 = 0 := by decide
  have k24_ : Int32.toInt 24 = 24 := by decide
  refine W_nameQ (fun Q0 eQ => ?_)
  refine lv_aload_n hx hb dX2_makeFromLeaves_0 rfl (lv_at hl 0 rfl) ?_
  refine lv_iconst (v := 0) hx hb dX2_makeFromLeaves_1 (by decide) ?_
  obtain ⟨q1_1, pc_1, c1_1, c2_1, c3_1, q5_1, fc_1, q7_1, mc_1, e_1, fq1_1, fc1_1, fc2_1, fc3_1, fq5_1, ffc_1, fq7_1, fmc_1⟩ := hPI.a2 hh0
  obtain ⟨k_1, hk_1⟩ := va_plg hh0.1 e_1
  have hD9 := hD
  have rg_2 : 0 ≤ Int32.toInt 0 ∧ Int32.toInt 0 ≤ 24 := by constructor <;> omega
  refine va_put (D := (dC, dI)) (ci := 2) (v := .int 0) (ty := .int) (C := RX2) (T := TX2) (N := 9) hx hb hts iX2_ tyX2 tyX2_ok nmX2 hown hK hP hD hS k_1 hk_1 rfl 8 (by decide) (hts (.fieldLink RX2 147 "FieldLeaves" "madeCount" "I") (by decide +kernel)) (fun _ h9 => h9) rfl (by decide +kernel) rfl rfl (Nat.le_of_ble_eq_true rfl) dX2_makeFromLeaves_2 (fun H locs hP hD hS => ?_)
  have hP : va_P (dC, dI) vwCl (va_pl L (va_up f h0 (.inr (2, [.ref q1_1, .int pc_1, .ref c1_1, .ref c2_1, .ref c3_1, .ref q5_1, .int fc_1, .ref q7_1, .int 0])))) H := by rw [← va_pls hD9 hh0.1 hk_1 _]; exact hP
  have hD : va_D A (va_pl L (va_up f h0 (.inr (2, [.ref q1_1, .int pc_1, .ref c1_1, .ref c2_1, .ref c3_1, .ref q5_1, .int fc_1, .ref q7_1, .int 0])))) := by rw [← va_pls hD9 hh0.1 hk_1 _]; exact hD
  have hPI := hPI.put (e := .inr (2, [.ref q1_1, .int pc_1, .ref c1_1, .ref c2_1, .ref c3_1, .ref q5_1, .int fc_1, .ref q7_1, .int 0])) hh0 ⟨q1_1, pc_1, c1_1, c2_1, c3_1, q5_1, fc_1, q7_1, 0, rfl, fq1_1, fc1_1, fc2_1, fc3_1, fq5_1, ffc_1, fq7_1, rg_2⟩
  have es_f_3 : va_up f h0 (.inr (2, [.ref q1_1, .int pc_1, .ref c1_1, .ref c2_1, .ref c3_1, .ref q5_1, .int fc_1, .ref q7_1, .int 0])) h0 = .inr (2, [.ref q1_1, .int pc_1, .ref c1_1, .ref c2_1, .ref c3_1, .ref q5_1, .int fc_1, .ref q7_1, .int 0]) := va_up_self _ _ _
  generalize va_up f h0 (.inr (2, [.ref q1_1, .int pc_1, .ref c1_1, .ref c2_1, .ref c3_1, .ref q5_1, .int fc_1, .ref q7_1, .int 0])) = f_3 at hP hD hPI es_f_3 
  refine lv_iconst (v := 0) hx hb dX2_makeFromLeaves_5 (by decide) ?_
  refine lv_istore_n (lv' := [(1, .int 0), (0, .ref h0)]) hx hb dX2_makeFromLeaves_6 rfl hl (by decide) rfl (fun ls hl => ?_)
  have loop_7 : ∀ (n : Nat) (i1 : Int32)   (Kl : Nat → Nat) (Ll : List Nat) (fl : Nat → va_E) (cc ss : Nat) (H : Heap) (locs : List Loc) (ls : Array Slot), (0 ≤ i1.toInt ∧ i1.toInt ≤ 300) → (300 - i1.toInt).toNat < n → cc + 2 * n ≤ 602 → ss + 23 * n ≤ 6923 → EXT K L Kl Ll → PI kT kI kJ Kl Ll fl → va_P (dC, dI) vwCl (va_pl Ll fl) H → va_D A (va_pl Ll fl) → va_S A s.heap H locs → lv_has ls 4 [(1, .int i1), (0, .ref h0)] → W p l e (headSpec wsX2_makeFromLeaves ({ frames := 3, cells := 602, slots := 6923, locals := 65 } : Room)).room s m (([.ref h0] : List Value).toArray) below meth c H locs cc ss Q0 (F0 m 7 ls []) := by
    intro n
    induction n with
    | zero => intro i1 Kl Ll fl cc ss H locs ls  _ h9; exact absurd h9 (Nat.not_lt_zero _)
    | succ n ih_7 =>
      intro i1 Kl Ll fl cc ss H locs ls  hI hM hcc hss hE0 hPI hP hD hS hl
      have fe_4 := hh0.ext hE0
      refine lv_iload_n hx hb dX2_makeFromLeaves_7 rfl (lv_at hl 0 rfl) ?_
      refine lv_aload_n hx hb dX2_makeFromLeaves_8 rfl (lv_at hl 1 rfl) ?_
      obtain ⟨q1_5, pc_5, c1_5, c2_5, c3_5, q5_5, fc_5, q7_5, mc_5, e_5, fq1_5, fc1_5, fc2_5, fc3_5, fq5_5, ffc_5, fq7_5, fmc_5⟩ := hPI.a2 fe_4
      obtain ⟨k_5, hk_5⟩ := va_plg fe_4.1 e_5
      refine va_get (D := (dC, dI)) (ci := 2) (v := .ref c1_5) (C := RX2) (T := TX2) (N := 9) hx hb hts iX2_ hown hK hP k_5 hk_5 rfl 2 (by decide) (hts (.fieldLink RX2 18 "FieldLeaves" "current" "LFieldLeaves$LeafList;") (by decide +kernel)) (fun _ h9 => h9) rfl dX2_makeFromLeaves_9 ?_
      obtain ⟨n_6, d_6, v_6, z_6, e_6, fn_6, fd_6, fv_6, fz_6⟩ := hPI.a0 fc1_5
      obtain ⟨k_6, hk_6⟩ := va_plg fc1_5.1 e_6
      refine va_get (D := (dC, dI)) (ci := 0) (v := .int z_6) (C := RX0) (T := TX0) (N := 4) hx hb hts iX0_ hown hK hP k_6 hk_6 rfl 3 (by decide) (hts (.fieldLink RX2 128 "FieldLeaves$LeafList" "size" "I") (by decide +kernel)) (fun _ h9 => h9) rfl dX2_makeFromLeaves_12 ?_
      refine lv_icmp_ge (tgt := 105) hx hb dX2_makeFromLeaves_15 (by decide) (fun c_7 => ?_) (fun c_7 => ?_)
      · have c_7 := Int32.le_iff_toInt_le.mp c_7
        refine lv_iconst (v := 0) hx hb dX2_makeFromLeaves_105 (by decide) ?_
        subst eQ
        refine W.widen (k := 602) (n := 6923) (by omega) (by omega) ?_
        exact W.iret (v := 0) hx hb hr (fun t ht hW => ⟨⟨0, (), rfl, trivial, Kl, Ll, fl, hPI, hE0, by rw [ht]; exact hP, hD⟩, hS.F ht⟩) hS.2.2 dX2_makeFromLeaves_106
      · have c_7 := mt Int32.le_iff_toInt_le.mpr c_7
        refine lv_aload_n hx hb dX2_makeFromLeaves_18 rfl (lv_at hl 1 rfl) ?_
        obtain ⟨k_8, hk_8⟩ := va_plg fe_4.1 e_5
        refine va_get (D := (dC, dI)) (ci := 2) (v := .int mc_5) (C := RX2) (T := TX2) (N := 9) hx hb hts iX2_ hown hK hP k_8 hk_8 rfl 8 (by decide) (hts (.fieldLink RX2 147 "FieldLeaves" "madeCount" "I") (by decide +kernel)) (fun _ h9 => h9) rfl dX2_makeFromLeaves_19 ?_
        refine lv_bipush (v := 24) hx hb dX2_makeFromLeaves_22 (by decide) ?_
        refine lv_icmp_ge (tgt := 105) hx hb dX2_makeFromLeaves_24 (by decide) (fun c_9 => ?_) (fun c_9 => ?_)
        · have c_9 := Int32.le_iff_toInt_le.mp c_9
          refine lv_iconst (v := 0) hx hb dX2_makeFromLeaves_105 (by decide) ?_
          subst eQ
          refine W.widen (k := 602) (n := 6923) (by omega) (by omega) ?_
          exact W.iret (v := 0) hx hb hr (fun t ht hW => ⟨⟨0, (), rfl, trivial, Kl, Ll, fl, hPI, hE0, by rw [ht]; exact hP, hD⟩, hS.F ht⟩) hS.2.2 dX2_makeFromLeaves_106
        · have c_9 := mt Int32.le_iff_toInt_le.mpr c_9
          refine lv_aload_n hx hb dX2_makeFromLeaves_27 rfl (lv_at hl 1 rfl) ?_
          obtain ⟨k_10, hk_10⟩ := va_plg fe_4.1 e_5
          refine va_get (D := (dC, dI)) (ci := 2) (v := .ref c1_5) (C := RX2) (T := TX2) (N := 9) hx hb hts iX2_ hown hK hP k_10 hk_10 rfl 2 (by decide) (hts (.fieldLink RX2 18 "FieldLeaves" "current" "LFieldLeaves$LeafList;") (by decide +kernel)) (fun _ h9 => h9) rfl dX2_makeFromLeaves_28 ?_
          obtain ⟨k_11, hk_11⟩ := va_plg fc1_5.1 e_6
          refine va_get (D := (dC, dI)) (ci := 0) (v := .ref d_6) (C := RX0) (T := TX0) (N := 4) hx hb hts iX0_ hown hK hP k_11 hk_11 rfl 1 (by decide) (hts (.fieldLink RX2 137 "FieldLeaves$LeafList" "fields" "[I") (by decide +kernel)) (fun _ h9 => h9) rfl dX2_makeFromLeaves_31 ?_
          refine lv_iload_n hx hb dX2_makeFromLeaves_34 rfl (lv_at hl 0 rfl) ?_
          obtain ⟨g_12, e_12⟩ := hPI.a7 fd_6
          obtain ⟨k_12, hk_12⟩ := va_plg fd_6.1 e_12
          have h_12 : vp_in i1 300 := (vp_in_iff.mpr (by constructor <;> omega))
          refine va_iald hx hb hK hP k_12 1 hk_12 rfl h_12 dX2_makeFromLeaves_35 ?_
          refine lv_topi (fun z_12 ez_12 => ?_)
          refine lv_iconst (v := (-1)) hx hb dX2_makeFromLeaves_36 (by decide) ?_
          refine lv_icmp_ne (tgt := 99) hx hb dX2_makeFromLeaves_37 (by decide) (fun c_13 => ?_) (fun c_13 => ?_)
          · have c_13 := mt Int32.toInt_inj.mp c_13
            obtain ⟨i_14, ei_14⟩ : ∃ y : Int32, y = i1 + 1 := ⟨_, rfl⟩
            refine lv_iinc (v := i_14) (lv' := [(1, .int i_14), (0, .ref h0)]) hx hb dX2_makeFromLeaves_99 hl (k := 0) rfl (by rw [ei_14]; rfl) (by decide) rfl (fun ls hl => ?_)
            have ki_14 := inc_toInt ei_14 (by omega)
            refine lv_goto (tgt := 7) hx hb dX2_makeFromLeaves_102 (by decide) ?_
            exact ih_7 i_14 Kl Ll fl (cc) (ss) _ _ _  (by omega) (by omega) (by omega) (by omega) hE0 hPI hP hD hS (lv_sub hl [0, 1] rfl)
          · have c_13 := congrArg Int32.toInt c_13
            refine lv_aload_n hx hb dX2_makeFromLeaves_40 rfl (lv_at hl 1 rfl) ?_
            obtain ⟨k_15, hk_15⟩ := va_plg fe_4.1 e_5
            refine va_get (D := (dC, dI)) (ci := 2) (v := .ref c1_5) (C := RX2) (T := TX2) (N := 9) hx hb hts iX2_ hown hK hP k_15 hk_15 rfl 2 (by decide) (hts (.fieldLink RX2 18 "FieldLeaves" "current" "LFieldLeaves$LeafList;") (by decide +kernel)) (fun _ h9 => h9) rfl dX2_makeFromLeaves_41 ?_
            obtain ⟨k_16, hk_16⟩ := va_plg fc1_5.1 e_6
            refine va_get (D := (dC, dI)) (ci := 0) (v := .ref v_6) (C := RX0) (T := TX0) (N := 4) hx hb hts iX0_ hown hK hP k_16 hk_16 rfl 2 (by decide) (hts (.fieldLink RX2 140 "FieldLeaves$LeafList" "values" "[J") (by decide +kernel)) (fun _ h9 => h9) rfl dX2_makeFromLeaves_44 ?_
            refine lv_iload_n hx hb dX2_makeFromLeaves_47 rfl (lv_at hl 0 rfl) ?_
            obtain ⟨g_17, e_17⟩ := hPI.a8 fv_6
            obtain ⟨k_17, hk_17⟩ := va_plg fv_6.1 e_17
            have h_17 : vp_in i1 300 := (vp_in_iff.mpr (by constructor <;> omega))
            refine va_lald hx hb hK hP k_17 2 hk_17 rfl h_17 dX2_makeFromLeaves_48 ?_
            refine lv_topl (fun z_17 ez_17 => ?_)
            refine lv_l2i hx hb dX2_makeFromLeaves_49 rfl ?_
            refine lv_topi (fun z_18 ez_18 => ?_)
            refine lv_istore_n (lv' := [(2, .int z_18), (1, .int i1), (0, .ref h0)]) hx hb dX2_makeFromLeaves_50 rfl hl (by decide) rfl (fun ls hl => ?_)
            refine lv_aload_n hx hb dX2_makeFromLeaves_51 rfl (lv_at hl 2 rfl) ?_
            obtain ⟨k_19, hk_19⟩ := va_plg fe_4.1 e_5
            refine va_get (D := (dC, dI)) (ci := 2) (v := .ref c1_5) (C := RX2) (T := TX2) (N := 9) hx hb hts iX2_ hown hK hP k_19 hk_19 rfl 2 (by decide) (hts (.fieldLink RX2 18 "FieldLeaves" "current" "LFieldLeaves$LeafList;") (by decide +kernel)) (fun _ h9 => h9) rfl dX2_makeFromLeaves_52 ?_
            refine lv_iload_n hx hb dX2_makeFromLeaves_55 rfl (lv_at hl 1 rfl) ?_
            obtain ⟨k_20, hk_20⟩ := va_plg fc1_5.1 e_6
            refine va_calli (va_runV (b := c1_5) (As := [.int i1]) (rest := []) ⟨hx, hb, hml, hown, hts⟩ (t_X0_toldToMaker l dC dI TT H.size kT kI kJ Kl Ll fl hPI c1_5 fc1_5 i1 (by constructor <;> omega)) (cwV 1 hts gX2_makeFromLeaves_X0_toldToMaker rfl rfl rfl (by decide +kernel) ⟨Nat.le_of_ble_eq_true rfl, Nat.le_of_ble_eq_true rfl⟩) ⟨pr_blind, va_recv hK hP (ci := 0) rfl hk_20, (pr_S (ws := va_pl Ll fl) (wA := []) (tys := [(kT, .object RX1), (kI, .int), (kJ, .long)]) hP hK vd_nil hst hS (ro_free hS hA)).2⟩ rfl rfl hl.1 rfl (lv_room (Nat.le_of_ble_eq_true rfl)) dX2_makeFromLeaves_56 ⟨(show cc + 0 ≤ 602 by omega), (show ss + 0 ≤ 6923 by omega)⟩) hS (fun q _ h => (ro_free hS hA) q h) (ro_free hS hA) (fun r_21 u t H1 locs ht hvm hw hB hz1 hk1 hS => ?_)
            have hP := ro_keep hP hk1
            generalize H1 = H at hP hS ⊢
            refine lv_istore_n (lv' := [(3, .int r_21), (2, .int z_18), (1, .int i1), (0, .ref h0)]) hx hb dX2_makeFromLeaves_59 rfl hl (by decide) rfl (fun ls hl => ?_)
            refine lv_iload_n hx hb dX2_makeFromLeaves_60 rfl (lv_at hl 1 rfl) ?_
            refine lv_iload_n hx hb dX2_makeFromLeaves_61 rfl (lv_at hl 0 rfl) ?_
            refine va_calli (va_runS (As := [.int z_18, .int r_21]) (rest := []) ⟨hx, hb, hml, hown, hts⟩ (c_X2_makerTakes l dC dI TT H.size z_18 r_21) (va_cwS 2 hts gX2_makeFromLeaves_X2_makerTakes rfl rfl rfl (by decide +kernel) ⟨Nat.le_of_ble_eq_true rfl, Nat.le_of_ble_eq_true rfl⟩) (pr_S (ws := []) (wA := []) (tys := []) vp_nil (hK.sub [] rfl) vd_nil hst hS (ro_free hS hA)) rfl rfl hl.1 rfl (lv_room (Nat.le_of_ble_eq_true rfl)) dX2_makeFromLeaves_62 ⟨(show cc + 0 ≤ 602 by omega), (show ss + 0 ≤ 6923 by omega)⟩) hS (fun q _ h => (ro_free hS hA) q h) (ro_free hS hA) (fun r_22 u t H1 locs ht hvm hw hB hz1 hk1 hS => ?_)
            have hP := ro_keep hP hk1
            generalize H1 = H at hP hS ⊢
            rcases hw with ⟨rfl, hp_23⟩ | ⟨rfl, hp_23⟩
            · refine lv_if_ne (tgt := 71) hx hb dX2_makeFromLeaves_65 (by decide) (fun _ => ?_) (fun c9 => absurd c9 (by decide))
              refine lv_aload_n hx hb dX2_makeFromLeaves_71 rfl (lv_at hl 3 rfl) ?_
              obtain ⟨k_24, hk_24⟩ := va_plg fe_4.1 e_5
              refine va_get (D := (dC, dI)) (ci := 2) (v := .ref q7_5) (C := RX2) (T := TX2) (N := 9) hx hb hts iX2_ hown hK hP k_24 hk_24 rfl 7 (by decide) (hts (.fieldLink RX2 31 "FieldLeaves" "made" "[LFieldLeaves$Thing;") (by decide +kernel)) (fun _ h9 => h9) rfl dX2_makeFromLeaves_72 ?_
              refine lv_aload_n hx hb dX2_makeFromLeaves_75 rfl (lv_at hl 3 rfl) ?_
              obtain ⟨k_25, hk_25⟩ := va_plg fe_4.1 e_5
              refine va_get (D := (dC, dI)) (ci := 2) (v := .int mc_5) (C := RX2) (T := TX2) (N := 9) hx hb hts iX2_ hown hK hP k_25 hk_25 rfl 8 (by decide) (hts (.fieldLink RX2 147 "FieldLeaves" "madeCount" "I") (by decide +kernel)) (fun _ h9 => h9) rfl dX2_makeFromLeaves_76 ?_
              refine va_new (ci := 1) (fs := [.int 0, .null, .null, .null, .null, .null]) (C := RX1) (T := TX1) (N := 6) hx hb hts iX1_ tyX1 tyX1_ok hown (hts (.classLink RX2 9 RX1) (by decide +kernel)) (hts (.instantiable RX1 6) (by decide +kernel)) (hts (.initialized RX1) (by decide +kernel)) hK hP hD hS hA rfl (fun j hj => by rcases (show j = 0 ∨ j = 1 ∨ j = 2 ∨ j = 3 ∨ j = 4 ∨ j = 5 by omega) with rfl | rfl | rfl | rfl | rfl | rfl <;> rfl) (show cc + 1 ≤ 602 by omega) (show ss + 6 ≤ 6923 by omega) dX2_makeFromLeaves_79 (fun q_26 H hP hD hS => ?_)
              have hP := wp_rot hP
              have hD := wd_rot hD
              refine lv_dup hx hb dX2_makeFromLeaves_82 rfl ?_
              refine lv_iload_n hx hb dX2_makeFromLeaves_83 rfl (lv_at hl 1 rfl) ?_
              refine lv_iload_n hx hb dX2_makeFromLeaves_84 rfl (lv_at hl 0 rfl) ?_
              have hFc := va_free (wc := [(q_26, .inr (1, [.int 0, .null, .null, .null, .null, .null]))]) hD hS hA [0] rfl
              have hDt := (hD.sub (ws' := [(q_26, .inr (1, [.int 0, .null, .null, .null, .null, .null]))]) [0] (by decide) rfl).weaken (B := fun _ => True) (fun _ _ _ _ => trivial)
              refine va_callv (va_runI (As := [.int z_18, .int r_21]) (rest := [.ref q_26, .int mc_5, .ref q7_5]) ⟨hx, hb, hml, hown, hts⟩ (t_X1_init l dC dI TT H.size kJ q_26 z_18 r_21) (cwI 2 hts gX2_makeFromLeaves_X1_init rfl rfl rfl (hts (.initialized RX1) (by decide +kernel)) (hts (.methodLink RX2 42 yX1_init) (by decide +kernel)) (hts (.instanceMethod yX1_init) (by decide +kernel)) rfl (by decide +kernel) ⟨Nat.le_of_ble_eq_true rfl, Nat.le_of_ble_eq_true rfl⟩) (pr_S (ws := [(q_26, .inr (1, [.int 0, .null, .null, .null, .null, .null]))]) (wA := [(q_26, .inr (1, [.int 0, .null, .null, .null, .null, .null]))]) (tys := [(kJ, .long)]) (hP.sub [0] rfl) (hK.sub [2] rfl) hDt hst hS hFc) rfl rfl hl.1 rfl (lv_room (Nat.le_of_ble_eq_true rfl)) dX2_makeFromLeaves_85 ⟨(show cc + 1 + 1 ≤ 602 by omega), (show ss + 6 + 17 ≤ 6923 by omega)⟩) hS (fun q _ h => hFc q h) hFc (fun u t H1 locs ht hvm hw hB hz1 hk1 hS => ?_)
              obtain ⟨u_28, eu_28⟩ : ∃ z, z = u := ⟨_, rfl⟩
              subst eu_28
              obtain ⟨g_27, hP1, hD1⟩ := hB
              rw [ht] at hP1
              obtain ⟨hP, hD⟩ := va_joinQ (X := [(q_26, .inr (1, [.int 0, .null, .null, .null, .null, .null]))]) (cx := [(q_26, .inr (1, [.int 0, .null, .null, .null, .null, .null]))]) (wr := []) (w1 := [(q_26, .inr (1, [.int z_18, .ref u_28, .null, .null, .null, .null])), (u_28, .inl (kJ, 17, .inr (.inl g_27)))]) (pl := va_pl Ll fl) hP hD [0] [] rfl rfl (by decide) (by decide) hk1 hFc hP1 hD1
              generalize H1 = H at hP hS ⊢
              obtain ⟨K_30, L_31, f_29, hPI, hE, fq_32, hsm, hP, hD⟩ := fold2 hPI hP hD
              have eq_33 := (hsm h0 fe_4.1).trans e_5
              have eq_34 := (hsm c1_5 fc1_5.1).trans e_6
              have eq_35 := (hsm d_6 fd_6.1).trans e_12
              have eq_36 := (hsm v_6 fv_6.1).trans e_17
              have fe_37 := fq7_5.ext hE
              have fe_38 := fe_4.ext hE
              have hE0 := EXT.tr hE0 hE
              have fe_39 := fe_4.ext hE
              have fe_40 := fc1_5.ext hE
              have fe_41 := fd_6.ext hE
              have fe_42 := fv_6.ext hE
              have fe_43 := fq1_5.ext hE
              have fe_44 := fc1_5.ext hE
              have fe_45 := fc2_5.ext hE
              have fe_46 := fc3_5.ext hE
              have fe_47 := fq5_5.ext hE
              have fe_48 := fq7_5.ext hE
              have fe_49 := fn_6.ext hE
              have fe_50 := fd_6.ext hE
              have fe_51 := fv_6.ext hE
              obtain ⟨g_52, e_52, fg_52⟩ := hPI.a6 fe_37
              obtain ⟨k_52, hk_52⟩ := va_plg fe_37.1 e_52
              have h_52 : vp_in mc_5 24 := (vp_in_iff.mpr (by constructor <;> omega))
              obtain ⟨cn_53, v_53, b_53, m_53, st_53, i_53, e_53, fv_53, fb_53, fm_53, fst_53, fi_53⟩ := hPI.a1 fq_32
              obtain ⟨k_53, hk_53⟩ := va_plg fq_32.1 e_53
              have hD9 := hD
              refine va_astq hx hb hK hP hD hS k_52 0 k_53 1 hk_52 rfl hk_53 rfl h_52 dX2_makeFromLeaves_88 (fun H locs hP hD hS => ?_)
              have fg2_52 := upr_all (k := Int32.toNatClampNeg mc_5) (o := (some q_26)) fg_52 (fun _ h9 => by cases h9; exact fq_32)
              have hP : va_P (dC, dI) vwCl (va_pl L_31 (va_up f_29 q7_5 (.inl (kT, 24, .inr (.inr (.inr (.inr (va_up g_52 (Int32.toNatClampNeg mc_5) (some q_26))))))))) H := by rw [← va_pls hD9 fe_37.1 hk_52 _]; exact hP
              have hD : va_D A (va_pl L_31 (va_up f_29 q7_5 (.inl (kT, 24, .inr (.inr (.inr (.inr (va_up g_52 (Int32.toNatClampNeg mc_5) (some q_26))))))))) := by rw [← va_pls hD9 fe_37.1 hk_52 _]; exact hD
              have hPI := hPI.put (e := .inl (kT, 24, .inr (.inr (.inr (.inr (va_up g_52 (Int32.toNatClampNeg mc_5) (some q_26))))))) fe_37 ⟨_, rfl, fg2_52⟩
              have es_f_54 : va_up f_29 q7_5 (.inl (kT, 24, .inr (.inr (.inr (.inr (va_up g_52 (Int32.toNatClampNeg mc_5) (some q_26))))))) q7_5 = .inl (kT, 24, .inr (.inr (.inr (.inr (va_up g_52 (Int32.toNatClampNeg mc_5) (some q_26)))))) := va_up_self _ _ _
              have eq_55 := (va_up_ne f_29 (.inl (kT, 24, .inr (.inr (.inr (.inr (va_up g_52 (Int32.toNatClampNeg mc_5) (some q_26))))))) (isr_ne fe_39 fe_37 (by decide))).trans eq_33
              have eq_56 := (va_up_ne f_29 (.inl (kT, 24, .inr (.inr (.inr (.inr (va_up g_52 (Int32.toNatClampNeg mc_5) (some q_26))))))) (isr_ne fe_40 fe_37 (by decide))).trans eq_34
              have eq_57 := (va_up_ne f_29 (.inl (kT, 24, .inr (.inr (.inr (.inr (va_up g_52 (Int32.toNatClampNeg mc_5) (some q_26))))))) (isr_ne fq_32 fe_37 (by decide))).trans e_53
              have eq_58 := (va_up_ne f_29 (.inl (kT, 24, .inr (.inr (.inr (.inr (va_up g_52 (Int32.toNatClampNeg mc_5) (some q_26))))))) (isr_ne fe_41 fe_37 (by decide))).trans eq_35
              have eq_59 := (va_up_ne f_29 (.inl (kT, 24, .inr (.inr (.inr (.inr (va_up g_52 (Int32.toNatClampNeg mc_5) (some q_26))))))) (isr_ne fe_42 fe_37 (by decide))).trans eq_36
              generalize va_up f_29 q7_5 (.inl (kT, 24, .inr (.inr (.inr (.inr (va_up g_52 (Int32.toNatClampNeg mc_5) (some q_26))))))) = f_54 at hP hD hPI es_f_54 eq_55 eq_56 eq_57 eq_58 eq_59
              refine lv_aload_n hx hb dX2_makeFromLeaves_89 rfl (lv_at hl 3 rfl) ?_
              refine lv_dup hx hb dX2_makeFromLeaves_90 rfl ?_
              obtain ⟨k_60, hk_60⟩ := va_plg fe_38.1 eq_55
              refine va_get (D := (dC, dI)) (ci := 2) (v := .int mc_5) (C := RX2) (T := TX2) (N := 9) hx hb hts iX2_ hown hK hP k_60 hk_60 rfl 8 (by decide) (hts (.fieldLink RX2 147 "FieldLeaves" "madeCount" "I") (by decide +kernel)) (fun _ h9 => h9) rfl dX2_makeFromLeaves_91 ?_
              refine lv_iconst (v := 1) hx hb dX2_makeFromLeaves_94 (by decide) ?_
              refine lv_iadd hx hb dX2_makeFromLeaves_95 ?_
              refine lv_topi (fun z_61 ez_61 => ?_)
              have kz_61 := inc_toInt ez_61 (by omega)
              obtain ⟨k_62, hk_62⟩ := va_plg fe_38.1 eq_55
              have hD9 := hD
              have rg_63 : 0 ≤ Int32.toInt z_61 ∧ Int32.toInt z_61 ≤ 24 := by constructor <;> omega
              refine va_put (D := (dC, dI)) (ci := 2) (v := .int z_61) (ty := .int) (C := RX2) (T := TX2) (N := 9) hx hb hts iX2_ tyX2 tyX2_ok nmX2 hown hK hP hD hS k_62 hk_62 rfl 8 (by decide) (hts (.fieldLink RX2 147 "FieldLeaves" "madeCount" "I") (by decide +kernel)) (fun _ h9 => h9) rfl (by decide +kernel) rfl rfl (Nat.le_of_ble_eq_true rfl) dX2_makeFromLeaves_96 (fun H locs hP hD hS => ?_)
              have hP : va_P (dC, dI) vwCl (va_pl L_31 (va_up f_54 h0 (.inr (2, [.ref q1_5, .int pc_5, .ref c1_5, .ref c2_5, .ref c3_5, .ref q5_5, .int fc_5, .ref q7_5, .int z_61])))) H := by rw [← va_pls hD9 fe_38.1 hk_62 _]; exact hP
              have hD : va_D A (va_pl L_31 (va_up f_54 h0 (.inr (2, [.ref q1_5, .int pc_5, .ref c1_5, .ref c2_5, .ref c3_5, .ref q5_5, .int fc_5, .ref q7_5, .int z_61])))) := by rw [← va_pls hD9 fe_38.1 hk_62 _]; exact hD
              have hPI := hPI.put (e := .inr (2, [.ref q1_5, .int pc_5, .ref c1_5, .ref c2_5, .ref c3_5, .ref q5_5, .int fc_5, .ref q7_5, .int z_61])) fe_38 ⟨q1_5, pc_5, c1_5, c2_5, c3_5, q5_5, fc_5, q7_5, z_61, rfl, fe_43, fe_44, fe_45, fe_46, fe_47, ffc_5, fe_48, rg_63⟩
              have es_f_64 : va_up f_54 h0 (.inr (2, [.ref q1_5, .int pc_5, .ref c1_5, .ref c2_5, .ref c3_5, .ref q5_5, .int fc_5, .ref q7_5, .int z_61])) h0 = .inr (2, [.ref q1_5, .int pc_5, .ref c1_5, .ref c2_5, .ref c3_5, .ref q5_5, .int fc_5, .ref q7_5, .int z_61]) := va_up_self _ _ _
              have eq_65 := (va_up_ne f_54 (.inr (2, [.ref q1_5, .int pc_5, .ref c1_5, .ref c2_5, .ref c3_5, .ref q5_5, .int fc_5, .ref q7_5, .int z_61])) (isr_ne fe_40 fe_38 (by decide))).trans eq_56
              have eq_66 := (va_up_ne f_54 (.inr (2, [.ref q1_5, .int pc_5, .ref c1_5, .ref c2_5, .ref c3_5, .ref q5_5, .int fc_5, .ref q7_5, .int z_61])) (isr_ne fq_32 fe_38 (by decide))).trans eq_57
              have eq_67 := (va_up_ne f_54 (.inr (2, [.ref q1_5, .int pc_5, .ref c1_5, .ref c2_5, .ref c3_5, .ref q5_5, .int fc_5, .ref q7_5, .int z_61])) (isr_ne fe_41 fe_38 (by decide))).trans eq_58
              have eq_68 := (va_up_ne f_54 (.inr (2, [.ref q1_5, .int pc_5, .ref c1_5, .ref c2_5, .ref c3_5, .ref q5_5, .int fc_5, .ref q7_5, .int z_61])) (isr_ne fe_42 fe_38 (by decide))).trans eq_59
              have eq_69 := (va_up_ne f_54 (.inr (2, [.ref q1_5, .int pc_5, .ref c1_5, .ref c2_5, .ref c3_5, .ref q5_5, .int fc_5, .ref q7_5, .int z_61])) (isr_ne fe_37 fe_38 (by decide))).trans es_f_54
              generalize va_up f_54 h0 (.inr (2, [.ref q1_5, .int pc_5, .ref c1_5, .ref c2_5, .ref c3_5, .ref q5_5, .int fc_5, .ref q7_5, .int z_61])) = f_64 at hP hD hPI es_f_64 eq_65 eq_66 eq_67 eq_68 eq_69
              obtain ⟨i_70, ei_70⟩ : ∃ y : Int32, y = i1 + 1 := ⟨_, rfl⟩
              refine lv_iinc (v := i_70) (lv' := [(1, .int i_70), (3, .int r_21), (2, .int z_18), (0, .ref h0)]) hx hb dX2_makeFromLeaves_99 hl (k := 2) rfl (by rw [ei_70]; rfl) (by decide) rfl (fun ls hl => ?_)
              have ki_70 := inc_toInt ei_70 (by omega)
              refine lv_goto (tgt := 7) hx hb dX2_makeFromLeaves_102 (by decide) ?_
              exact ih_7 i_70 K_30 L_31 f_64 (cc + 1 + 1) (ss + 6 + 17) _ _ _  (by omega) (by omega) (by omega) (by omega) hE0 hPI hP hD hS (lv_sub hl [0, 3] rfl)
            · refine lv_if_ne (tgt := 71) hx hb dX2_makeFromLeaves_65 (by decide) (fun c9 => absurd c9 (by decide)) (fun _ => ?_)
              refine lv_bipush (v := (-18)) hx hb dX2_makeFromLeaves_68 (by decide) ?_
              subst eQ
              refine W.widen (k := 602) (n := 6923) (by omega) (by omega) ?_
              exact W.iret (v := (-18)) hx hb hr (fun t ht hW => ⟨⟨(-18), (), rfl, trivial, Kl, Ll, fl, hPI, hE0, by rw [ht]; exact hP, hD⟩, hS.F ht⟩) hS.2.2 dX2_makeFromLeaves_70
  exact loop_7 301 0 K L f_3 (0) (0) _ _ _  (by omega) (by omega) (by omega) (by omega) EXT.rf hPI hP hD hS hl
