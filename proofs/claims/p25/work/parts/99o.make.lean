set_option maxRecDepth 20000 in
theorem in_u_X2_makeFromLeaves_X0 : ∀ w ∈ u_ws RX0 TX0 4, w ∈ wsX2_makeFromLeaves := by decide +kernel
set_option maxRecDepth 20000 in
theorem in_u_X2_makeFromLeaves_X1 : ∀ w ∈ u_ws RX1 TX1 6, w ∈ wsX2_makeFromLeaves := by decide +kernel
set_option maxRecDepth 20000 in
theorem in_u_X2_makeFromLeaves_X2 : ∀ w ∈ u_ws RX2 TX2 9, w ∈ wsX2_makeFromLeaves := by decide +kernel
set_option maxRecDepth 100000 in
set_option maxHeartbeats 4000000 in
theorem u_X2_makeFromLeaves (l : Launch) (dC : Nat → ClassId) (dI : Nat → Nat → Nat) (TT : Nat × Nat × Nat) (sz : Nat) (kT kI kJ : ClassId) (K : Nat → Nat) (L : List Nat) (f : Nat → va_E) (hPI : PI kT kI kJ K L f) (h0 : Nat) (hh0 : isr K L 2 h0) (ow : Nat → Nat) (hOW0 : OWN K L f ow) (ll : List (Int32 × Int32 × Int64)) (hLS0 : LSt f (cP (f h0) 2) ll) (h24 : (mkl ll).length ≤ 24) : Met l yX2_makeFromLeaves wsX2_makeFromLeaves ({ frames := 3, cells := 602, slots := 6923, locals := 65 } : Room) (va_Pc [.ref h0] (pr dC dI (va_pl L f) (va_pl L f) [(kT, .object RX1), (kI, .int), (kJ, .long)] sz TT)) (va_Qi (fun (r : Int32) (u : Unit) => (r = 0 ∧ ∀ x ∈ mkl ll, tak x) ∨ (r = -18 ∧ ∃ x, x ∈ mkl ll ∧ ¬ tak x)) (fun (_ : Unit) t => ∃ (K2 : Nat → Nat) (L2 : List Nat) (f2 : Nat → va_E), PI kT kI kJ K2 L2 f2 ∧ EXT K L K2 L2 ∧ (∃ owl : Nat → Nat, (((∀ a, a ∈ L → ¬ a = h0 → ¬ K a = 6 → f2 a = f a) ∧ PHM f f2 h0) ∧ OWN K2 L2 f2 owl) ∧ ((∀ x ∈ mkl ll, tak x) → ∃ qs : Nat → Nat, MDf K L f h0 K2 L2 f2 owl (mkl ll).length qs (csM (mkl ll)) (vsM (mkl ll)) (fun _ _ => none) (fun _ => none))) ∧ va_P (dC, dI) vwCl (va_pl L2 f2) t.heap ∧ va_D (va_A (va_pl L f) sz) (va_pl L2 f2)) (va_A (va_pl L f) sz)) 602 6923 (va_A (va_pl L f) sz) := by
  refine Met.ofW (cc := cX2_makeFromLeaves) (maxL := 4) (ret := (some .int)) (by decide) rfl ?_
  intro p e s m args below meth c s₁ B hml hv
  obtain ⟨rfl, hsz, hP, hK, hD0, hst⟩ := hv
  have hx := B.exec
  have hb := B.bytes
  have hr := B.returns
  have hts := atoms_spec (ws := wsX2_makeFromLeaves) B.pre
  have hown : s.vm.findClass RX2 = some m.cls := findClass_of_methodNamed B.named
  have hlocks := B.notSynchronized
  have iX0_ := in_u_X2_makeFromLeaves_X0
  have iX1_ := in_u_X2_makeFromLeaves_X1
  have iX2_ := in_u_X2_makeFromLeaves_X2
  subst hsz
  have hD := hD0.self (sz := s.heap.size)
  generalize hAe : va_A (va_pl L f) s.heap.size = A at hD hst ⊢
  have hA : ∀ q : Nat, s.heap.size ≤ q → A q := fun q h => by rw [← hAe]; exact Or.inr h
  have hS : va_S A s.heap s.heap [] := va_S.rf
  have hl := lv_entry ([.ref h0]) (n := 4) (Nat.le_of_ble_eq_true rfl)
  rw [lg_entry_eq]
  generalize (lg_sl ([.ref h0]) ++ List.replicate (4 - (lg_sl ([.ref h0])).length) Slot.unset).toArray = ls at hl ⊢
  have hl : lv_has ls 4 [(0, .ref h0)] := hl
  have km18_ : Int32.toInt (-18) = -18 := by decide
  have km1_ : Int32.toInt (-1) = -1 := by decide
  have k0_ : Int32.toInt 0 = 0 := by decide
  have k24_ : Int32.toInt 24 = 24 := by decide
  refine W_nameQ (fun Q0 eQ => ?_)
  have hPI0 := hPI
  refine lv_aload_n hx hb dX2_makeFromLeaves_0 rfl (lv_at hl 0 rfl) ?_
  refine lv_iconst (v := 0) hx hb dX2_makeFromLeaves_1 (by decide) ?_
  obtain ⟨q1_1, pc_1, c1_1, c2_1, c3_1, q5_1, fc_1, q7_1, mc_1, e_1, fq1_1, fc1_1, fc2_1, fc3_1, fq5_1, ffc_1, fq7_1, fmc_1⟩ := hPI.a2 hh0
  obtain ⟨k_1, hk_1⟩ := va_plg hh0.1 e_1
  have hD9 := hD
  have rg_2 : 0 ≤ Int32.toInt 0 ∧ Int32.toInt 0 ≤ 24 := by constructor <;> omega
  refine va_put (D := (dC, dI)) (ci := 2) (v := .int 0) (ty := .int) (C := RX2) (T := TX2) (N := 9) hx hb hts iX2_ tyX2 tyX2_ok nmX2 hown hK hP hD hS k_1 hk_1 rfl 8 (by decide) (hts (.fieldLink RX2 147 "FieldLeaves" "madeCount" "I") (by decide +kernel)) (fun _ h9 => h9) rfl (by decide +kernel) rfl rfl (Nat.le_of_ble_eq_true rfl) dX2_makeFromLeaves_2 (fun H locs hP hD hS => ?_)
  have hP : va_P (dC, dI) vwCl (va_pl L (va_up f h0 (.inr (2, [.ref q1_1, .int pc_1, .ref c1_1, .ref c2_1, .ref c3_1, .ref q5_1, .int fc_1, .ref q7_1, .int 0])))) H := by rw [← va_pls hD9 hh0.1 hk_1 _]; exact hP
  have hD : va_D A (va_pl L (va_up f h0 (.inr (2, [.ref q1_1, .int pc_1, .ref c1_1, .ref c2_1, .ref c3_1, .ref q5_1, .int fc_1, .ref q7_1, .int 0])))) := by rw [← va_pls hD9 hh0.1 hk_1 _]; exact hD
  have hPI := hPI.put (e := .inr (2, [.ref q1_1, .int pc_1, .ref c1_1, .ref c2_1, .ref c3_1, .ref q5_1, .int fc_1, .ref q7_1, .int 0])) hh0 ⟨q1_1, pc_1, c1_1, c2_1, c3_1, q5_1, fc_1, q7_1, 0, rfl, fq1_1, fc1_1, fc2_1, fc3_1, fq5_1, ffc_1, fq7_1, rg_2⟩
  have es_f_3 : va_up f h0 (.inr (2, [.ref q1_1, .int pc_1, .ref c1_1, .ref c2_1, .ref c3_1, .ref q5_1, .int fc_1, .ref q7_1, .int 0])) h0 = .inr (2, [.ref q1_1, .int pc_1, .ref c1_1, .ref c2_1, .ref c3_1, .ref q5_1, .int fc_1, .ref q7_1, .int 0]) := va_up_self _ _ _
  generalize hg_f_3 : va_up f h0 (.inr (2, [.ref q1_1, .int pc_1, .ref c1_1, .ref c2_1, .ref c3_1, .ref q5_1, .int fc_1, .ref q7_1, .int 0])) = f_3 at hP hD hPI es_f_3 
  refine lv_iconst (v := 0) hx hb dX2_makeFromLeaves_5 (by decide) ?_
  refine lv_istore_n (lv' := [(1, .int 0), (0, .ref h0)]) hx hb dX2_makeFromLeaves_6 rfl hl (by decide) rfl (fun ls hl => ?_)
  have loop_7 : ∀ (n : Nat) (i1 : Int32)   (Kl : Nat → Nat) (Ll : List Nat) (fl : Nat → va_E) (cc ss : Nat) (H : Heap) (locs : List Loc) (ls : Array Slot), (0 ≤ i1.toInt ∧ i1.toInt ≤ 300) → (300 - i1.toInt).toNat < n → cc + 2 * n ≤ 602 → ss + 23 * n ≤ 6923 → EXT K L Kl Ll → (∃ (M : List (Int32 × Int32)) (owl : Nat → Nat) (qs : Nat → Nat) (cs : Nat → Int32) (V : Nat → Nat → Int64), MDf K L f h0 Kl Ll fl owl M.length qs cs V (fun _ _ => none) (fun _ => none) ∧ (∀ i c t, M[i]? = some (c, t) → cs i = c ∧ V i = ks_vals c t) ∧ (∀ x ∈ M, tak x) ∧ mkl ll = M ++ mkl (ll.drop (Int32.toNatClampNeg i1))) → PI kT kI kJ Kl Ll fl → va_P (dC, dI) vwCl (va_pl Ll fl) H → va_D A (va_pl Ll fl) → va_S A s.heap H locs → lv_has ls 4 [(1, .int i1), (0, .ref h0)] → W p l e (headSpec wsX2_makeFromLeaves ({ frames := 3, cells := 602, slots := 6923, locals := 65 } : Room)).room s m (([.ref h0] : List Value).toArray) below meth c H locs cc ss Q0 (F0 m 7 ls []) := by
    intro n
    induction n with
    | zero => intro i1 Kl Ll fl cc ss H locs ls  _ h9; exact absurd h9 (Nat.not_lt_zero _)
    | succ n ih_7 =>
      intro i1 Kl Ll fl cc ss H locs ls  hI hM hcc hss hE0 hFN hPI hP hD hS hl
      have fe_4 := hh0.ext hE0
      obtain ⟨M, owl, qs, cs, V, hM, hcv, htk, hmk⟩ := hFN
      have hEl := hE0
      have hPIl := hPI
      have hLS := hM.ls hPI0 hh0 hLS0
      obtain ⟨q1_5, pc_5, c1_5, c2_5, c3_5, q5_5, fc_5, q7_5, mc_5, e_5, fq1_5, fc1_5, fc2_5, fc3_5, fq5_5, ffc_5, fq7_5, fmc_5⟩ := hPI.a2 fe_4
      obtain ⟨k_5, hk_5⟩ := va_plg fe_4.1 e_5
      rw [ob_c1 e_5] at hLS
      obtain ⟨n_6, d_6, v_6, z_6, e_6, fn_6, fd_6, fv_6, fz_6⟩ := hPI.a0 fc1_5
      obtain ⟨k_6, hk_6⟩ := va_plg fc1_5.1 e_6
      obtain ⟨g_7, e_7⟩ := hPI.a7 fn_6
      obtain ⟨k_7, hk_7⟩ := va_plg fn_6.1 e_7
      obtain ⟨g_8, e_8⟩ := hPI.a7 fd_6
      obtain ⟨k_8, hk_8⟩ := va_plg fd_6.1 e_8
      obtain ⟨g_9, e_9⟩ := hPI.a8 fv_6
      obtain ⟨k_9, hk_9⟩ := va_plg fv_6.1 e_9
      have hL := hLS
      unfold LSt at hL
      rw [li_z e_6, li_n e_6 e_7, li_d e_6 e_8, li_v e_6 e_9] at hL
      obtain ⟨g_10, e_10, fg_10⟩ := hPI.a6 fq7_5
      obtain ⟨k_10, hk_10⟩ := va_plg fq7_5.1 e_10
      have hmc := hM.2.2.1.1
      rw [ob_mc e_5] at hmc
      refine lv_iload_n hx hb dX2_makeFromLeaves_7 rfl (lv_at hl 0 rfl) ?_
      refine lv_aload_n hx hb dX2_makeFromLeaves_8 rfl (lv_at hl 1 rfl) ?_
      obtain ⟨k_11, hk_11⟩ := va_plg fe_4.1 e_5
      refine va_get (D := (dC, dI)) (ci := 2) (v := .ref c1_5) (C := RX2) (T := TX2) (N := 9) hx hb hts iX2_ hown hK hP k_11 hk_11 rfl 2 (by decide) (hts (.fieldLink RX2 18 "FieldLeaves" "current" "LFieldLeaves$LeafList;") (by decide +kernel)) (fun _ h9 => h9) rfl dX2_makeFromLeaves_9 ?_
      obtain ⟨k_12, hk_12⟩ := va_plg fc1_5.1 e_6
      refine va_get (D := (dC, dI)) (ci := 0) (v := .int z_6) (C := RX0) (T := TX0) (N := 4) hx hb hts iX0_ hown hK hP k_12 hk_12 rfl 3 (by decide) (hts (.fieldLink RX2 128 "FieldLeaves$LeafList" "size" "I") (by decide +kernel)) (fun _ h9 => h9) rfl dX2_makeFromLeaves_12 ?_
      refine lv_icmp_ge (tgt := 105) hx hb dX2_makeFromLeaves_15 (by decide) (fun c_13 => ?_) (fun c_13 => ?_)
      · have c_13 := Int32.le_iff_toInt_le.mp c_13
        refine lv_iconst (v := 0) hx hb dX2_makeFromLeaves_105 (by decide) ?_
        subst eQ
        refine W.widen (k := 602) (n := 6923) (by omega) (by omega) ?_
        exact W.iret (v := 0) hx hb hr (fun t ht hW => ⟨⟨0, (), rfl, Or.inl ⟨rfl, by rw [(show mkl ll = M from by first | (rw [hmk, mkl_end hL (by omega) (by omega), List.append_nil]) | exact mkl_done hmk h24 (by omega))]; exact htk⟩, Kl, Ll, fl, hPI, hE0, ⟨owl, ⟨hM.1, hM.2.1⟩, fun _ => ⟨qs, by rw [(show mkl ll = M from by first | (rw [hmk, mkl_end hL (by omega) (by omega), List.append_nil]) | exact mkl_done hmk h24 (by omega))]; exact hM.cg (M_get hcv)⟩⟩, by rw [ht]; exact hP, hD⟩, hS.F ht⟩) hS.2.2 dX2_makeFromLeaves_106
      · have c_13 := mt Int32.le_iff_toInt_le.mpr c_13
        refine lv_aload_n hx hb dX2_makeFromLeaves_18 rfl (lv_at hl 1 rfl) ?_
        obtain ⟨k_14, hk_14⟩ := va_plg fe_4.1 e_5
        refine va_get (D := (dC, dI)) (ci := 2) (v := .int mc_5) (C := RX2) (T := TX2) (N := 9) hx hb hts iX2_ hown hK hP k_14 hk_14 rfl 8 (by decide) (hts (.fieldLink RX2 147 "FieldLeaves" "madeCount" "I") (by decide +kernel)) (fun _ h9 => h9) rfl dX2_makeFromLeaves_19 ?_
        refine lv_bipush (v := 24) hx hb dX2_makeFromLeaves_22 (by decide) ?_
        refine lv_icmp_ge (tgt := 105) hx hb dX2_makeFromLeaves_24 (by decide) (fun c_15 => ?_) (fun c_15 => ?_)
        · have c_15 := Int32.le_iff_toInt_le.mp c_15
          refine lv_iconst (v := 0) hx hb dX2_makeFromLeaves_105 (by decide) ?_
          subst eQ
          refine W.widen (k := 602) (n := 6923) (by omega) (by omega) ?_
          exact W.iret (v := 0) hx hb hr (fun t ht hW => ⟨⟨0, (), rfl, Or.inl ⟨rfl, by rw [(show mkl ll = M from by first | (rw [hmk, mkl_end hL (by omega) (by omega), List.append_nil]) | exact mkl_done hmk h24 (by omega))]; exact htk⟩, Kl, Ll, fl, hPI, hE0, ⟨owl, ⟨hM.1, hM.2.1⟩, fun _ => ⟨qs, by rw [(show mkl ll = M from by first | (rw [hmk, mkl_end hL (by omega) (by omega), List.append_nil]) | exact mkl_done hmk h24 (by omega))]; exact hM.cg (M_get hcv)⟩⟩, by rw [ht]; exact hP, hD⟩, hS.F ht⟩) hS.2.2 dX2_makeFromLeaves_106
        · have c_15 := mt Int32.le_iff_toInt_le.mpr c_15
          refine lv_aload_n hx hb dX2_makeFromLeaves_27 rfl (lv_at hl 1 rfl) ?_
          obtain ⟨k_16, hk_16⟩ := va_plg fe_4.1 e_5
          refine va_get (D := (dC, dI)) (ci := 2) (v := .ref c1_5) (C := RX2) (T := TX2) (N := 9) hx hb hts iX2_ hown hK hP k_16 hk_16 rfl 2 (by decide) (hts (.fieldLink RX2 18 "FieldLeaves" "current" "LFieldLeaves$LeafList;") (by decide +kernel)) (fun _ h9 => h9) rfl dX2_makeFromLeaves_28 ?_
          obtain ⟨k_17, hk_17⟩ := va_plg fc1_5.1 e_6
          refine va_get (D := (dC, dI)) (ci := 0) (v := .ref d_6) (C := RX0) (T := TX0) (N := 4) hx hb hts iX0_ hown hK hP k_17 hk_17 rfl 1 (by decide) (hts (.fieldLink RX2 137 "FieldLeaves$LeafList" "fields" "[I") (by decide +kernel)) (fun _ h9 => h9) rfl dX2_makeFromLeaves_31 ?_
          refine lv_iload_n hx hb dX2_makeFromLeaves_34 rfl (lv_at hl 0 rfl) ?_
          obtain ⟨k_18, hk_18⟩ := va_plg fd_6.1 e_8
          have h_18 : vp_in i1 300 := (vp_in_iff.mpr (by constructor <;> omega))
          refine va_iald hx hb hK hP k_18 1 hk_18 rfl h_18 dX2_makeFromLeaves_35 ?_
          refine lv_topi (fun z_18 ez_18 => ?_)
          refine lv_iconst (v := (-1)) hx hb dX2_makeFromLeaves_36 (by decide) ?_
          refine lv_icmp_ne (tgt := 99) hx hb dX2_makeFromLeaves_37 (by decide) (fun c_19 => ?_) (fun c_19 => ?_)
          · have c_19 := mt Int32.toInt_inj.mp c_19
            obtain ⟨i_20, ei_20⟩ : ∃ y : Int32, y = i1 + 1 := ⟨_, rfl⟩
            refine lv_iinc (v := i_20) (lv' := [(1, .int i_20), (0, .ref h0)]) hx hb dX2_makeFromLeaves_99 hl (k := 0) rfl (by rw [ei_20]; rfl) (by decide) rfl (fun ls hl => ?_)
            have ki_20 := inc_toInt ei_20 (by omega)
            refine lv_goto (tgt := 7) hx hb dX2_makeFromLeaves_102 (by decide) ?_
            exact ih_7 i_20 Kl Ll fl (cc) (ss) _ _ _  (by omega) (by omega) (by omega) (by omega) hE0 ⟨M, owl, qs, cs, V, hM, hcv, htk, by rw [← mkl_next (i2 := i_20) hL (by omega) (by omega) (by rw [← ez_18]; omega) ki_20]; exact hmk⟩ hPI hP hD hS (lv_sub hl [0, 1] rfl)
          · have c_19 := congrArg Int32.toInt c_19
            refine lv_aload_n hx hb dX2_makeFromLeaves_40 rfl (lv_at hl 1 rfl) ?_
            obtain ⟨k_21, hk_21⟩ := va_plg fe_4.1 e_5
            refine va_get (D := (dC, dI)) (ci := 2) (v := .ref c1_5) (C := RX2) (T := TX2) (N := 9) hx hb hts iX2_ hown hK hP k_21 hk_21 rfl 2 (by decide) (hts (.fieldLink RX2 18 "FieldLeaves" "current" "LFieldLeaves$LeafList;") (by decide +kernel)) (fun _ h9 => h9) rfl dX2_makeFromLeaves_41 ?_
            obtain ⟨k_22, hk_22⟩ := va_plg fc1_5.1 e_6
            refine va_get (D := (dC, dI)) (ci := 0) (v := .ref v_6) (C := RX0) (T := TX0) (N := 4) hx hb hts iX0_ hown hK hP k_22 hk_22 rfl 2 (by decide) (hts (.fieldLink RX2 140 "FieldLeaves$LeafList" "values" "[J") (by decide +kernel)) (fun _ h9 => h9) rfl dX2_makeFromLeaves_44 ?_
            refine lv_iload_n hx hb dX2_makeFromLeaves_47 rfl (lv_at hl 0 rfl) ?_
            obtain ⟨k_23, hk_23⟩ := va_plg fv_6.1 e_9
            have h_23 : vp_in i1 300 := (vp_in_iff.mpr (by constructor <;> omega))
            refine va_lald hx hb hK hP k_23 2 hk_23 rfl h_23 dX2_makeFromLeaves_48 ?_
            refine lv_topl (fun z_23 ez_23 => ?_)
            refine lv_l2i hx hb dX2_makeFromLeaves_49 rfl ?_
            refine lv_topi (fun z_24 ez_24 => ?_)
            refine lv_istore_n (lv' := [(2, .int z_24), (1, .int i1), (0, .ref h0)]) hx hb dX2_makeFromLeaves_50 rfl hl (by decide) rfl (fun ls hl => ?_)
            refine lv_aload_n hx hb dX2_makeFromLeaves_51 rfl (lv_at hl 2 rfl) ?_
            obtain ⟨k_25, hk_25⟩ := va_plg fe_4.1 e_5
            refine va_get (D := (dC, dI)) (ci := 2) (v := .ref c1_5) (C := RX2) (T := TX2) (N := 9) hx hb hts iX2_ hown hK hP k_25 hk_25 rfl 2 (by decide) (hts (.fieldLink RX2 18 "FieldLeaves" "current" "LFieldLeaves$LeafList;") (by decide +kernel)) (fun _ h9 => h9) rfl dX2_makeFromLeaves_52 ?_
            refine lv_iload_n hx hb dX2_makeFromLeaves_55 rfl (lv_at hl 1 rfl) ?_
            obtain ⟨k_26, hk_26⟩ := va_plg fc1_5.1 e_6
            refine va_calli (va_runV (b := c1_5) (As := [.int i1]) (rest := []) ⟨hx, hb, hml, hown, hts⟩ (u_X0_toldToMaker l dC dI TT H.size kT kI kJ Kl Ll fl hPI c1_5 fc1_5 i1 ll hLS (by constructor <;> omega)) (cwV 1 hts gX2_makeFromLeaves_X0_toldToMaker rfl rfl rfl (by decide +kernel) ⟨Nat.le_of_ble_eq_true rfl, Nat.le_of_ble_eq_true rfl⟩) ⟨pr_blind, va_recv hK hP (ci := 0) rfl hk_26, (pr_S (ws := va_pl Ll fl) (wA := []) (tys := [(kT, .object RX1), (kI, .int), (kJ, .long)]) hP hK vd_nil hst hS (ro_free hS hA)).2⟩ rfl rfl hl.1 rfl (lv_room (Nat.le_of_ble_eq_true rfl)) dX2_makeFromLeaves_56 ⟨(show cc + 0 ≤ 602 by omega), (show ss + 0 ≤ 6923 by omega)⟩) hS (fun q _ h => (ro_free hS hA) q h) (ro_free hS hA) (fun r_27 u t H1 locs ht hvm hw hB hz1 hk1 hS => ?_)
            have hP := ro_keep hP hk1
            generalize H1 = H at hP hS ⊢
            have hq_28 := hw
            refine lv_istore_n (lv' := [(3, .int r_27), (2, .int z_24), (1, .int i1), (0, .ref h0)]) hx hb dX2_makeFromLeaves_59 rfl hl (by decide) rfl (fun ls hl => ?_)
            refine lv_iload_n hx hb dX2_makeFromLeaves_60 rfl (lv_at hl 1 rfl) ?_
            refine lv_iload_n hx hb dX2_makeFromLeaves_61 rfl (lv_at hl 0 rfl) ?_
            refine va_calli (va_runS (As := [.int z_24, .int r_27]) (rest := []) ⟨hx, hb, hml, hown, hts⟩ (c_X2_makerTakes l dC dI TT H.size z_24 r_27) (va_cwS 2 hts gX2_makeFromLeaves_X2_makerTakes rfl rfl rfl (by decide +kernel) ⟨Nat.le_of_ble_eq_true rfl, Nat.le_of_ble_eq_true rfl⟩) (pr_S (ws := []) (wA := []) (tys := []) vp_nil (hK.sub [] rfl) vd_nil hst hS (ro_free hS hA)) rfl rfl hl.1 rfl (lv_room (Nat.le_of_ble_eq_true rfl)) dX2_makeFromLeaves_62 ⟨(show cc + 0 ≤ 602 by omega), (show ss + 0 ≤ 6923 by omega)⟩) hS (fun q _ h => (ro_free hS hA) q h) (ro_free hS hA) (fun r_29 u t H1 locs ht hvm hw hB hz1 hk1 hS => ?_)
            have hP := ro_keep hP hk1
            generalize H1 = H at hP hS ⊢
            rcases hw with ⟨rfl, hp_30⟩ | ⟨rfl, hp_30⟩
            · refine lv_if_ne (tgt := 71) hx hb dX2_makeFromLeaves_65 (by decide) (fun _ => ?_) (fun c9 => absurd c9 (by decide))
              refine lv_aload_n hx hb dX2_makeFromLeaves_71 rfl (lv_at hl 3 rfl) ?_
              obtain ⟨k_31, hk_31⟩ := va_plg fe_4.1 e_5
              refine va_get (D := (dC, dI)) (ci := 2) (v := .ref q7_5) (C := RX2) (T := TX2) (N := 9) hx hb hts iX2_ hown hK hP k_31 hk_31 rfl 7 (by decide) (hts (.fieldLink RX2 31 "FieldLeaves" "made" "[LFieldLeaves$Thing;") (by decide +kernel)) (fun _ h9 => h9) rfl dX2_makeFromLeaves_72 ?_
              refine lv_aload_n hx hb dX2_makeFromLeaves_75 rfl (lv_at hl 3 rfl) ?_
              obtain ⟨k_32, hk_32⟩ := va_plg fe_4.1 e_5
              refine va_get (D := (dC, dI)) (ci := 2) (v := .int mc_5) (C := RX2) (T := TX2) (N := 9) hx hb hts iX2_ hown hK hP k_32 hk_32 rfl 8 (by decide) (hts (.fieldLink RX2 147 "FieldLeaves" "madeCount" "I") (by decide +kernel)) (fun _ h9 => h9) rfl dX2_makeFromLeaves_76 ?_
              refine va_new (ci := 1) (fs := [.int 0, .null, .null, .null, .null, .null]) (C := RX1) (T := TX1) (N := 6) hx hb hts iX1_ tyX1 tyX1_ok hown (hts (.classLink RX2 9 RX1) (by decide +kernel)) (hts (.instantiable RX1 6) (by decide +kernel)) (hts (.initialized RX1) (by decide +kernel)) hK hP hD hS hA rfl (fun j hj => by rcases (show j = 0 ∨ j = 1 ∨ j = 2 ∨ j = 3 ∨ j = 4 ∨ j = 5 by omega) with rfl | rfl | rfl | rfl | rfl | rfl <;> rfl) (show cc + 1 ≤ 602 by omega) (show ss + 6 ≤ 6923 by omega) dX2_makeFromLeaves_79 (fun q_33 H hP hD hS => ?_)
              have hP := wp_rot hP
              have hD := wd_rot hD
              refine lv_dup hx hb dX2_makeFromLeaves_82 rfl ?_
              refine lv_iload_n hx hb dX2_makeFromLeaves_83 rfl (lv_at hl 1 rfl) ?_
              refine lv_iload_n hx hb dX2_makeFromLeaves_84 rfl (lv_at hl 0 rfl) ?_
              have hFc := va_free (wc := [(q_33, .inr (1, [.int 0, .null, .null, .null, .null, .null]))]) hD hS hA [0] rfl
              have hDt := (hD.sub (ws' := [(q_33, .inr (1, [.int 0, .null, .null, .null, .null, .null]))]) [0] (by decide) rfl).weaken (B := fun _ => True) (fun _ _ _ _ => trivial)
              refine va_callv (va_runI (As := [.int z_24, .int r_27]) (rest := [.ref q_33, .int mc_5, .ref q7_5]) ⟨hx, hb, hml, hown, hts⟩ (u_X1_init l dC dI TT H.size kJ q_33 z_24 r_27) (cwI 2 hts gX2_makeFromLeaves_X1_init rfl rfl rfl (hts (.initialized RX1) (by decide +kernel)) (hts (.methodLink RX2 42 yX1_init) (by decide +kernel)) (hts (.instanceMethod yX1_init) (by decide +kernel)) rfl (by decide +kernel) ⟨Nat.le_of_ble_eq_true rfl, Nat.le_of_ble_eq_true rfl⟩) (pr_S (ws := [(q_33, .inr (1, [.int 0, .null, .null, .null, .null, .null]))]) (wA := [(q_33, .inr (1, [.int 0, .null, .null, .null, .null, .null]))]) (tys := [(kJ, .long)]) (hP.sub [0] rfl) (hK.sub [2] rfl) hDt hst hS hFc) rfl rfl hl.1 rfl (lv_room (Nat.le_of_ble_eq_true rfl)) dX2_makeFromLeaves_85 ⟨(show cc + 1 + 1 ≤ 602 by omega), (show ss + 6 + 17 ≤ 6923 by omega)⟩) hS (fun q _ h => hFc q h) hFc (fun u t H1 locs ht hvm hw hB hz1 hk1 hS => ?_)
              obtain ⟨u_35, eu_35⟩ : ∃ z, z = u := ⟨_, rfl⟩
              subst eu_35
              obtain ⟨hP1, hD1⟩ := hB
              rw [ht] at hP1
              obtain ⟨hP, hD⟩ := va_joinQ (X := [(q_33, .inr (1, [.int 0, .null, .null, .null, .null, .null]))]) (cx := [(q_33, .inr (1, [.int 0, .null, .null, .null, .null, .null]))]) (wr := []) (w1 := [(q_33, .inr (1, [.int z_24, .ref u_35, .null, .null, .null, .null])), (u_35, .inl (kJ, 17, .inr (.inl (ks_vals z_24 r_27))))]) (pl := va_pl Ll fl) hP hD [0] [] rfl rfl (by decide) (by decide) hk1 hFc hP1 hD1
              generalize H1 = H at hP hS ⊢
              obtain ⟨K_37, L_38, f_36, hPI, hE, fq_39, hsm, hP, hD, hnf_40⟩ := fold2x hPI hP hD
              have eq_41 := (hsm h0 fe_4.1).trans e_5
              have eq_42 := (hsm c1_5 fc1_5.1).trans e_6
              have eq_43 := (hsm n_6 fn_6.1).trans e_7
              have eq_44 := (hsm d_6 fd_6.1).trans e_8
              have eq_45 := (hsm v_6 fv_6.1).trans e_9
              have eq_46 := (hsm q7_5 fq7_5.1).trans e_10
              have fe_47 := fq7_5.ext hE
              have fe_48 := fe_4.ext hE
              have hE0 := EXT.tr hE0 hE
              have fe_49 := fe_4.ext hE
              have fe_50 := fc1_5.ext hE
              have fe_51 := fn_6.ext hE
              have fe_52 := fd_6.ext hE
              have fe_53 := fv_6.ext hE
              have fe_54 := fq7_5.ext hE
              have fe_55 := fq1_5.ext hE
              have fe_56 := fc1_5.ext hE
              have fe_57 := fc2_5.ext hE
              have fe_58 := fc3_5.ext hE
              have fe_59 := fq5_5.ext hE
              have fe_60 := fq7_5.ext hE
              have fe_61 := fn_6.ext hE
              have fe_62 := fd_6.ext hE
              have fe_63 := fv_6.ext hE
              have fe_64 := fun j hj => (fg_10 j hj).ext hE
              obtain ⟨k_65, hk_65⟩ := va_plg fe_47.1 eq_46
              have h_65 : vp_in mc_5 24 := (vp_in_iff.mpr (by constructor <;> omega))
              obtain ⟨cn_66, v_66, b_66, m_66, st_66, i_66, e_66, fv_66, fb_66, fm_66, fst_66, fi_66⟩ := hPI.a1 fq_39
              obtain ⟨k_66, hk_66⟩ := va_plg fq_39.1 e_66
              have hD9 := hD
              refine va_astq hx hb hK hP hD hS k_65 0 k_66 1 hk_65 rfl hk_66 rfl h_65 dX2_makeFromLeaves_88 (fun H locs hP hD hS => ?_)
              have fg2_65 := upr_all (k := Int32.toNatClampNeg mc_5) (o := (some q_33)) fe_64 (fun _ h9 => by cases h9; exact fq_39)
              have hP : va_P (dC, dI) vwCl (va_pl L_38 (va_up f_36 q7_5 (.inl (kT, 24, .inr (.inr (.inr (.inr (va_up g_10 (Int32.toNatClampNeg mc_5) (some q_33))))))))) H := by rw [← va_pls hD9 fe_47.1 hk_65 _]; exact hP
              have hD : va_D A (va_pl L_38 (va_up f_36 q7_5 (.inl (kT, 24, .inr (.inr (.inr (.inr (va_up g_10 (Int32.toNatClampNeg mc_5) (some q_33))))))))) := by rw [← va_pls hD9 fe_47.1 hk_65 _]; exact hD
              have hPI := hPI.put (e := .inl (kT, 24, .inr (.inr (.inr (.inr (va_up g_10 (Int32.toNatClampNeg mc_5) (some q_33))))))) fe_47 ⟨_, rfl, fg2_65⟩
              have es_f_67 : va_up f_36 q7_5 (.inl (kT, 24, .inr (.inr (.inr (.inr (va_up g_10 (Int32.toNatClampNeg mc_5) (some q_33))))))) q7_5 = .inl (kT, 24, .inr (.inr (.inr (.inr (va_up g_10 (Int32.toNatClampNeg mc_5) (some q_33)))))) := va_up_self _ _ _
              have eq_68 := (va_up_ne f_36 (.inl (kT, 24, .inr (.inr (.inr (.inr (va_up g_10 (Int32.toNatClampNeg mc_5) (some q_33))))))) (isr_ne fe_49 fe_47 (by decide))).trans eq_41
              have eq_69 := (va_up_ne f_36 (.inl (kT, 24, .inr (.inr (.inr (.inr (va_up g_10 (Int32.toNatClampNeg mc_5) (some q_33))))))) (isr_ne fe_50 fe_47 (by decide))).trans eq_42
              have eq_70 := (va_up_ne f_36 (.inl (kT, 24, .inr (.inr (.inr (.inr (va_up g_10 (Int32.toNatClampNeg mc_5) (some q_33))))))) (isr_ne fq_39 fe_47 (by decide))).trans e_66
              have eq_71 := (va_up_ne f_36 (.inl (kT, 24, .inr (.inr (.inr (.inr (va_up g_10 (Int32.toNatClampNeg mc_5) (some q_33))))))) (isr_ne fe_51 fe_47 (by decide))).trans eq_43
              have eq_72 := (va_up_ne f_36 (.inl (kT, 24, .inr (.inr (.inr (.inr (va_up g_10 (Int32.toNatClampNeg mc_5) (some q_33))))))) (isr_ne fe_52 fe_47 (by decide))).trans eq_44
              have eq_73 := (va_up_ne f_36 (.inl (kT, 24, .inr (.inr (.inr (.inr (va_up g_10 (Int32.toNatClampNeg mc_5) (some q_33))))))) (isr_ne fe_53 fe_47 (by decide))).trans eq_45
              generalize hg_f_67 : va_up f_36 q7_5 (.inl (kT, 24, .inr (.inr (.inr (.inr (va_up g_10 (Int32.toNatClampNeg mc_5) (some q_33))))))) = f_67 at hP hD hPI es_f_67 eq_68 eq_69 eq_70 eq_71 eq_72 eq_73
              refine lv_aload_n hx hb dX2_makeFromLeaves_89 rfl (lv_at hl 3 rfl) ?_
              refine lv_dup hx hb dX2_makeFromLeaves_90 rfl ?_
              obtain ⟨k_74, hk_74⟩ := va_plg fe_48.1 eq_68
              refine va_get (D := (dC, dI)) (ci := 2) (v := .int mc_5) (C := RX2) (T := TX2) (N := 9) hx hb hts iX2_ hown hK hP k_74 hk_74 rfl 8 (by decide) (hts (.fieldLink RX2 147 "FieldLeaves" "madeCount" "I") (by decide +kernel)) (fun _ h9 => h9) rfl dX2_makeFromLeaves_91 ?_
              refine lv_iconst (v := 1) hx hb dX2_makeFromLeaves_94 (by decide) ?_
              refine lv_iadd hx hb dX2_makeFromLeaves_95 ?_
              refine lv_topi (fun z_75 ez_75 => ?_)
              have kz_75 := inc_toInt ez_75 (by omega)
              obtain ⟨k_76, hk_76⟩ := va_plg fe_48.1 eq_68
              have hD9 := hD
              have rg_77 : 0 ≤ Int32.toInt z_75 ∧ Int32.toInt z_75 ≤ 24 := by constructor <;> omega
              refine va_put (D := (dC, dI)) (ci := 2) (v := .int z_75) (ty := .int) (C := RX2) (T := TX2) (N := 9) hx hb hts iX2_ tyX2 tyX2_ok nmX2 hown hK hP hD hS k_76 hk_76 rfl 8 (by decide) (hts (.fieldLink RX2 147 "FieldLeaves" "madeCount" "I") (by decide +kernel)) (fun _ h9 => h9) rfl (by decide +kernel) rfl rfl (Nat.le_of_ble_eq_true rfl) dX2_makeFromLeaves_96 (fun H locs hP hD hS => ?_)
              have hP : va_P (dC, dI) vwCl (va_pl L_38 (va_up f_67 h0 (.inr (2, [.ref q1_5, .int pc_5, .ref c1_5, .ref c2_5, .ref c3_5, .ref q5_5, .int fc_5, .ref q7_5, .int z_75])))) H := by rw [← va_pls hD9 fe_48.1 hk_76 _]; exact hP
              have hD : va_D A (va_pl L_38 (va_up f_67 h0 (.inr (2, [.ref q1_5, .int pc_5, .ref c1_5, .ref c2_5, .ref c3_5, .ref q5_5, .int fc_5, .ref q7_5, .int z_75])))) := by rw [← va_pls hD9 fe_48.1 hk_76 _]; exact hD
              have hPI := hPI.put (e := .inr (2, [.ref q1_5, .int pc_5, .ref c1_5, .ref c2_5, .ref c3_5, .ref q5_5, .int fc_5, .ref q7_5, .int z_75])) fe_48 ⟨q1_5, pc_5, c1_5, c2_5, c3_5, q5_5, fc_5, q7_5, z_75, rfl, fe_55, fe_56, fe_57, fe_58, fe_59, ffc_5, fe_60, rg_77⟩
              have es_f_78 : va_up f_67 h0 (.inr (2, [.ref q1_5, .int pc_5, .ref c1_5, .ref c2_5, .ref c3_5, .ref q5_5, .int fc_5, .ref q7_5, .int z_75])) h0 = .inr (2, [.ref q1_5, .int pc_5, .ref c1_5, .ref c2_5, .ref c3_5, .ref q5_5, .int fc_5, .ref q7_5, .int z_75]) := va_up_self _ _ _
              have eq_79 := (va_up_ne f_67 (.inr (2, [.ref q1_5, .int pc_5, .ref c1_5, .ref c2_5, .ref c3_5, .ref q5_5, .int fc_5, .ref q7_5, .int z_75])) (isr_ne fe_50 fe_48 (by decide))).trans eq_69
              have eq_80 := (va_up_ne f_67 (.inr (2, [.ref q1_5, .int pc_5, .ref c1_5, .ref c2_5, .ref c3_5, .ref q5_5, .int fc_5, .ref q7_5, .int z_75])) (isr_ne fq_39 fe_48 (by decide))).trans eq_70
              have eq_81 := (va_up_ne f_67 (.inr (2, [.ref q1_5, .int pc_5, .ref c1_5, .ref c2_5, .ref c3_5, .ref q5_5, .int fc_5, .ref q7_5, .int z_75])) (isr_ne fe_51 fe_48 (by decide))).trans eq_71
              have eq_82 := (va_up_ne f_67 (.inr (2, [.ref q1_5, .int pc_5, .ref c1_5, .ref c2_5, .ref c3_5, .ref q5_5, .int fc_5, .ref q7_5, .int z_75])) (isr_ne fe_52 fe_48 (by decide))).trans eq_72
              have eq_83 := (va_up_ne f_67 (.inr (2, [.ref q1_5, .int pc_5, .ref c1_5, .ref c2_5, .ref c3_5, .ref q5_5, .int fc_5, .ref q7_5, .int z_75])) (isr_ne fe_53 fe_48 (by decide))).trans eq_73
              have eq_84 := (va_up_ne f_67 (.inr (2, [.ref q1_5, .int pc_5, .ref c1_5, .ref c2_5, .ref c3_5, .ref q5_5, .int fc_5, .ref q7_5, .int z_75])) (isr_ne fe_47 fe_48 (by decide))).trans es_f_67
              generalize hg_f_78 : va_up f_67 h0 (.inr (2, [.ref q1_5, .int pc_5, .ref c1_5, .ref c2_5, .ref c3_5, .ref q5_5, .int fc_5, .ref q7_5, .int z_75])) = f_78 at hP hD hPI es_f_78 eq_79 eq_80 eq_81 eq_82 eq_83 eq_84
              obtain ⟨i_85, ei_85⟩ : ∃ y : Int32, y = i1 + 1 := ⟨_, rfl⟩
              refine lv_iinc (v := i_85) (lv' := [(1, .int i_85), (3, .int r_27), (2, .int z_24), (0, .ref h0)]) hx hb dX2_makeFromLeaves_99 hl (k := 2) rfl (by rw [ei_85]; rfl) (by decide) rfl (fun ls hl => ?_)
              have ki_85 := inc_toInt ei_85 (by omega)
              refine lv_goto (tgt := 7) hx hb dX2_makeFromLeaves_102 (by decide) ?_
              exact ih_7 i_85 K_37 L_38 f_78 (cc + 1 + 1) (ss + 6 + 17) _ _ _  (by omega) (by omega) (by omega) (by omega) hE0 ⟨M ++ [(z_24, r_27)], va_up owl u_35 q_33, va_up qs M.length q_33, va_up cs M.length z_24, va_up V M.length (ks_vals z_24 r_27), by rw [List.length_append]; exact mdf_push hEl hh0 hPIl hM (fun _ _ => rfl) (fun _ => rfl) e_5 fq7_5 e_10 hnf_40 hg_f_67 hg_f_78 kz_75, M_snoc hcv, tak_snoc htk hp_30, (by rw [hmk, mkl_hit (i2 := i_85) hL (by omega) (by omega) (by rw [← ez_18]; omega) ki_85, ← ez_23, ← ez_24, ← hq_28] <;> simp)⟩ hPI hP hD hS (lv_sub hl [0, 3] rfl)
            · refine lv_if_ne (tgt := 71) hx hb dX2_makeFromLeaves_65 (by decide) (fun c9 => absurd c9 (by decide)) (fun _ => ?_)
              refine lv_bipush (v := (-18)) hx hb dX2_makeFromLeaves_68 (by decide) ?_
              subst eQ
              refine W.widen (k := 602) (n := 6923) (by omega) (by omega) ?_
              exact W.iret (v := (-18)) hx hb hr (fun t ht hW => ⟨⟨(-18), (), rfl, Or.inr ⟨rfl, _, (show (z_24, r_27) ∈ mkl ll from by rw [show mkl ll = M ++ ((z_24, r_27) :: mkl (ll.drop (Int32.toNatClampNeg (i1 + 1)))) from (by rw [hmk, mkl_hit (i2 := i1 + 1) hL (by omega) (by omega) (by rw [← ez_18]; omega) (inc_toInt rfl (by omega)), ← ez_23, ← ez_24, ← hq_28] <;> simp)]; simp), hp_30⟩, Kl, Ll, fl, hPI, hE0, ⟨owl, ⟨hM.1, hM.2.1⟩, fun h9 => absurd (h9 _ (show (z_24, r_27) ∈ mkl ll from by rw [show mkl ll = M ++ ((z_24, r_27) :: mkl (ll.drop (Int32.toNatClampNeg (i1 + 1)))) from (by rw [hmk, mkl_hit (i2 := i1 + 1) hL (by omega) (by omega) (by rw [← ez_18]; omega) (inc_toInt rfl (by omega)), ← ez_23, ← ez_24, ← hq_28] <;> simp)]; simp)) hp_30⟩, by rw [ht]; exact hP, hD⟩, hS.F ht⟩) hS.2.2 dX2_makeFromLeaves_70
  exact loop_7 301 0 K L f_3 (0) (0) _ _ _  (by omega) (by omega) (by omega) (by omega) EXT.rf ⟨[], ow, fun _ => 0, fun _ => 0, fun _ _ => 0, mdf_0 (own_same hOW0 (fun y hy => by rw [← hg_f_3, va_up_ne _ _ (isr_ne hy hh0 (by decide))]) (fun y hy => by rw [← hg_f_3, va_up_ne _ _ (isr_ne hy hh0 (by decide))])) ⟨fun a ha n1 _ => by rw [← hg_f_3, va_up_ne _ _ n1], (by unfold PHM; rw [es_f_3, e_1]; exact ⟨rfl, rfl, rfl, rfl, rfl, rfl, rfl⟩)⟩ (by rw [ob_mc es_f_3]; exact k0_), fun i c t h9 => by simp at h9, fun x hx => absurd hx List.not_mem_nil, by rw [cl_0]; rfl⟩ hPI hP hD hS hl

