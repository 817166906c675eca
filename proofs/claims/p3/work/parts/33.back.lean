theorem l2i_small {x : Int64} {z : Int32} (e : z = x.toInt32) (h0 : 0 ≤ x.toInt) (h1 : x.toInt < 2147483648) : z.toInt = x.toInt := by
  rw [e, Int64.toInt_toInt32]
  exact Int.bmod_eq_of_le (by omega) (by omega)
theorem sub_toInt {x y z : Int32} (e : z = x - y) (h0 : 0 ≤ y.toInt) (h1 : y.toInt ≤ x.toInt) : z.toInt = x.toInt - y.toInt := by
  have h2 := Int32.toInt_lt x
  rw [e, Int32.toInt_sub]
  exact Int.bmod_eq_of_le (by omega) (by omega)
set_option maxRecDepth 20000 in
theorem in_t_X0_toldToMaker_X0 : ∀ w ∈ u_ws RX0 TX0 4, w ∈ wsX0_toldToMaker := by decide +kernel
set_option maxRecDepth 100000 in
set_option maxHeartbeats 4000000 in
theorem t_X0_toldToMaker (l : Launch) (dC : Nat → ClassId) (dI : Nat → Nat → Nat) (TT : Nat × Nat × Nat) (sz : Nat) (kT kI kJ : ClassId) (K : Nat → Nat) (L : List Nat) (f : Nat → va_E) (hPI : PI kT kI kJ K L f) (x0 : Nat) (hx0 : isr K L 0 x0) (k0 : Int32) (hk0 : 0 ≤ k0.toInt ∧ k0.toInt < 300) : Met l yX0_toldToMaker wsX0_toldToMaker ({ frames := 2, cells := 0, slots := 0, locals := 43 } : Room) (va_Pc [.ref x0, .int k0] (pr dC dI (va_pl L f) [] [(kT, .object RX1), (kI, .int), (kJ, .long)] sz TT)) (va_Qi (fun (r : Int32) (u : Unit) => True) (fun _ _ => True) (va_A [] sz)) 0 0 (va_A [] sz) := by
  refine Met.ofW (cc := cX0_toldToMaker) (maxL := 3) (ret := (some .int)) (by decide) rfl ?_
  intro p e s m args below meth c s₁ B hml hv
  obtain ⟨rfl, hsz, hP, hK, hD0, hst⟩ := hv
  have hx := B.exec
  have hb := B.bytes
  have hr := B.returns
  have hts := atoms_spec (ws := wsX0_toldToMaker) B.pre
  have hown : s.vm.findClass RX0 = some m.cls := findClass_of_methodNamed B.named
  have hlocks := B.notSynchronized
  have iX0_ := in_t_X0_toldToMaker_X0
  subst hsz
  have hD := hD0.self (sz := s.heap.size)
  generalize hAe : va_A [] s.heap.size = A at hD hst ⊢
  have hA : ∀ q : Nat, s.heap.size ≤ q → A q := fun q h => by rw [← hAe]; exact Or.inr h
  have hS : va_S A s.heap s.heap [] := va_S.rf
  have hl := lv_entry ([.ref x0, .int k0]) (n := 3) (Nat.le_of_ble_eq_true rfl)
  rw [lg_entry_eq]
  generalize (lg_sl ([.ref x0, .int k0]) ++ List.replicate (3 - (lg_sl ([.ref x0, .int k0])).length) Slot.unset).toArray = ls at hl ⊢
  have hl : lv_has ls 3 [(0, .ref x0), (1, .int k0)] := hl
  have km1_ : Int32.toInt (-1) = -1 := by decide
  have k0_ : Int32.toInt 0 = 0 := by decide
  refine W_nameQ (fun Q0 eQ => ?_)
  refine lv_iload_n hx hb dX0_toldToMaker_0 rfl (lv_at hl 1 rfl) ?_
  refine lv_iconst (v := 1) hx hb dX0_toldToMaker_1 (by decide) ?_
  refine lv_iadd hx hb dX0_toldToMaker_2 ?_
  refine lv_topi (fun z_1 ez_1 => ?_)
  have kz_1 := inc_toInt ez_1 (by omega)
  refine lv_istore_n (lv' := [(2, .int z_1), (0, .ref x0), (1, .int k0)]) hx hb dX0_toldToMaker_3 rfl hl (by decide) rfl (fun ls hl => ?_)
  have loop_4 : ∀ (n : Nat) (i2 : Int32)   (H : Heap) (locs : List Loc) (ls : Array Slot), (0 ≤ i2.toInt ∧ i2.toInt ≤ 300) → (300 - i2.toInt).toNat < n → va_P (dC, dI) vwCl (va_pl L f) H → va_S A s.heap H locs → lv_has ls 3 [(2, .int i2), (0, .ref x0), (1, .int k0)] → W p l e (headSpec wsX0_toldToMaker ({ frames := 2, cells := 0, slots := 0, locals := 43 } : Room)).room s m (([.ref x0, .int k0] : List Value).toArray) below meth c H locs 0 0 Q0 (F0 m 4 ls []) := by
    intro n
    induction n with
    | zero => intro i2 H locs ls  _ h9; exact absurd h9 (Nat.not_lt_zero _)
    | succ n ih_4 =>
      intro i2 H locs ls  hI hM hP hS hl
      refine lv_iload_n hx hb dX0_toldToMaker_4 rfl (lv_at hl 0 rfl) ?_
      refine lv_aload_n hx hb dX0_toldToMaker_5 rfl (lv_at hl 1 rfl) ?_
      obtain ⟨n_2, d_2, v_2, z_2, e_2, fn_2, fd_2, fv_2, fz_2⟩ := hPI.a0 hx0
      obtain ⟨k_2, hk_2⟩ := va_plg hx0.1 e_2
      refine va_get (D := (dC, dI)) (ci := 0) (v := .int z_2) (C := RX0) (T := TX0) (N := 4) hx hb hts iX0_ hown hK hP k_2 hk_2 rfl 3 (by decide) (hts (.fieldLink RX0 22 "FieldLeaves$LeafList" "size" "I") (by decide +kernel)) (fun _ h9 => h9) rfl dX0_toldToMaker_6 ?_
      refine lv_icmp_ge (tgt := 57) hx hb dX0_toldToMaker_9 (by decide) (fun c_3 => ?_) (fun c_3 => ?_)
      · have c_3 := Int32.le_iff_toInt_le.mp c_3
        refine lv_iconst (v := 0) hx hb dX0_toldToMaker_57 (by decide) ?_
        subst eQ
        exact W.iret (v := 0) hx hb hr (fun t ht hW => ⟨⟨0, (), rfl, trivial, trivial⟩, hS.F ht⟩) hS.2.2 dX0_toldToMaker_58
      · have c_3 := mt Int32.le_iff_toInt_le.mpr c_3
        refine lv_aload_n hx hb dX0_toldToMaker_12 rfl (lv_at hl 1 rfl) ?_
        obtain ⟨k_4, hk_4⟩ := va_plg hx0.1 e_2
        refine va_get (D := (dC, dI)) (ci := 0) (v := .ref d_2) (C := RX0) (T := TX0) (N := 4) hx hb hts iX0_ hown hK hP k_4 hk_4 rfl 1 (by decide) (hts (.fieldLink RX0 15 "FieldLeaves$LeafList" "fields" "[I") (by decide +kernel)) (fun _ h9 => h9) rfl dX0_toldToMaker_13 ?_
        refine lv_iload_n hx hb dX0_toldToMaker_16 rfl (lv_at hl 0 rfl) ?_
        obtain ⟨g_5, e_5⟩ := hPI.a7 fd_2
        obtain ⟨k_5, hk_5⟩ := va_plg fd_2.1 e_5
        have h_5 : vp_in i2 300 := (vp_in_iff.mpr (by constructor <;> omega))
        refine va_iald hx hb hK hP k_5 1 hk_5 rfl h_5 dX0_toldToMaker_17 ?_
        refine lv_topi (fun z_5 ez_5 => ?_)
        refine lv_iconst (v := (-1)) hx hb dX0_toldToMaker_18 (by decide) ?_
        refine lv_icmp_eq (tgt := 57) hx hb dX0_toldToMaker_19 (by decide) (fun c_6 => ?_) (fun c_6 => ?_)
        · have c_6 := congrArg Int32.toInt c_6
          refine lv_iconst (v := 0) hx hb dX0_toldToMaker_57 (by decide) ?_
          subst eQ
          exact W.iret (v := 0) hx hb hr (fun t ht hW => ⟨⟨0, (), rfl, trivial, trivial⟩, hS.F ht⟩) hS.2.2 dX0_toldToMaker_58
        · have c_6 := mt Int32.toInt_inj.mp c_6
          refine lv_aload_n hx hb dX0_toldToMaker_22 rfl (lv_at hl 1 rfl) ?_
          obtain ⟨k_7, hk_7⟩ := va_plg hx0.1 e_2
          refine va_get (D := (dC, dI)) (ci := 0) (v := .ref d_2) (C := RX0) (T := TX0) (N := 4) hx hb hts iX0_ hown hK hP k_7 hk_7 rfl 1 (by decide) (hts (.fieldLink RX0 15 "FieldLeaves$LeafList" "fields" "[I") (by decide +kernel)) (fun _ h9 => h9) rfl dX0_toldToMaker_23 ?_
          refine lv_iload_n hx hb dX0_toldToMaker_26 rfl (lv_at hl 0 rfl) ?_
          obtain ⟨k_8, hk_8⟩ := va_plg fd_2.1 e_5
          have h_8 : vp_in i2 300 := (vp_in_iff.mpr (by constructor <;> omega))
          refine va_iald hx hb hK hP k_8 1 hk_8 rfl h_8 dX0_toldToMaker_27 ?_
          refine lv_topi (fun z_8 ez_8 => ?_)
          obtain rfl : z_5 = z_8 := ez_5.trans ez_8.symm
          refine va_calli (va_runSN (As := [.int z_5]) (rest := []) ⟨hx, hb, hml, hown, hts⟩ (c_X2_isFinal l dC dI TT H.size z_5) ⟨va_cnB 1 hts gX0_toldToMaker_X2_isFinal_n26 rfl rfl rfl hst.n26 (hts (.initialized RX2) (by decide +kernel)) (by decide +kernel) ⟨Nat.le_of_ble_eq_true rfl, Nat.le_of_ble_eq_true rfl⟩, hts (.static yX2_isFinal) (by decide +kernel), trivial⟩ (pr_S (ws := []) (wA := []) (tys := []) vp_nil (hK.sub [] rfl) vd_nil hst hS (ro_free hS hA)) rfl rfl hl.1 rfl (lv_room (Nat.le_of_ble_eq_true rfl)) dX0_toldToMaker_28 ⟨Nat.le_of_ble_eq_true rfl, Nat.le_of_ble_eq_true rfl⟩) hS (fun q _ h => (ro_free hS hA) q h) (ro_free hS hA) (fun r_9 u t H1 locs ht hvm hw hB hz1 hk1 hS => ?_)
          have hP := ro_keep hP hk1
          generalize H1 = H at hP hS ⊢
          rcases hw with ⟨rfl, hp_10⟩ | ⟨rfl, hp_10⟩
          · refine lv_if_eq (tgt := 51) hx hb dX0_toldToMaker_31 (by decide) (fun c9 => absurd c9 (by decide)) (fun _ => ?_)
            refine lv_aload_n hx hb dX0_toldToMaker_34 rfl (lv_at hl 1 rfl) ?_
            obtain ⟨k_11, hk_11⟩ := va_plg hx0.1 e_2
            refine va_get (D := (dC, dI)) (ci := 0) (v := .ref d_2) (C := RX0) (T := TX0) (N := 4) hx hb hts iX0_ hown hK hP k_11 hk_11 rfl 1 (by decide) (hts (.fieldLink RX0 15 "FieldLeaves$LeafList" "fields" "[I") (by decide +kernel)) (fun _ h9 => h9) rfl dX0_toldToMaker_35 ?_
            refine lv_iload_n hx hb dX0_toldToMaker_38 rfl (lv_at hl 0 rfl) ?_
            obtain ⟨k_12, hk_12⟩ := va_plg fd_2.1 e_5
            have h_12 : vp_in i2 300 := (vp_in_iff.mpr (by constructor <;> omega))
            refine va_iald hx hb hK hP k_12 1 hk_12 rfl h_12 dX0_toldToMaker_39 ?_
            refine lv_topi (fun z_12 ez_12 => ?_)
            obtain rfl : z_5 = z_12 := ez_5.trans ez_12.symm
            refine lv_aload_n hx hb dX0_toldToMaker_40 rfl (lv_at hl 1 rfl) ?_
            obtain ⟨k_13, hk_13⟩ := va_plg hx0.1 e_2
            refine va_get (D := (dC, dI)) (ci := 0) (v := .ref v_2) (C := RX0) (T := TX0) (N := 4) hx hb hts iX0_ hown hK hP k_13 hk_13 rfl 2 (by decide) (hts (.fieldLink RX0 18 "FieldLeaves$LeafList" "values" "[J") (by decide +kernel)) (fun _ h9 => h9) rfl dX0_toldToMaker_41 ?_
            refine lv_iload_n hx hb dX0_toldToMaker_44 rfl (lv_at hl 0 rfl) ?_
            obtain ⟨g_14, e_14⟩ := hPI.a8 fv_2
            obtain ⟨k_14, hk_14⟩ := va_plg fv_2.1 e_14
            have h_14 : vp_in i2 300 := (vp_in_iff.mpr (by constructor <;> omega))
            refine va_lald hx hb hK hP k_14 2 hk_14 rfl h_14 dX0_toldToMaker_45 ?_
            refine lv_topl (fun z_14 ez_14 => ?_)
            refine va_calll (va_runSN (As := [.int z_5, .long z_14]) (rest := []) ⟨hx, hb, hml, hown, hts⟩ (t_X2_asTold l dC dI TT H.size kT kI kJ K L f hPI z_5 z_14 (by constructor <;> omega)) ⟨va_cnB 2 hts gX0_toldToMaker_X2_asTold_n30 rfl rfl rfl hst.n30 (hts (.initialized RX2) (by decide +kernel)) (by decide +kernel) ⟨Nat.le_of_ble_eq_true rfl, Nat.le_of_ble_eq_true rfl⟩, hts (.static yX2_asTold) (by decide +kernel), trivial⟩ (pr_S (ws := va_pl L f) (wA := []) (tys := [(kT, .object RX1), (kI, .int), (kJ, .long)]) hP hK vd_nil hst hS (ro_free hS hA)) rfl rfl hl.1 rfl (lv_room (Nat.le_of_ble_eq_true rfl)) dX0_toldToMaker_46 ⟨Nat.le_of_ble_eq_true rfl, Nat.le_of_ble_eq_true rfl⟩) hS (fun q _ h => (ro_free hS hA) q h) (ro_free hS hA) (fun r_15 u t H1 locs ht hvm hw hB hz1 hk1 hS => ?_)
            have hP := ro_keep hP hk1
            generalize H1 = H at hP hS ⊢
            refine lv_l2i hx hb dX0_toldToMaker_49 rfl ?_
            refine lv_topi (fun z_16 ez_16 => ?_)
            subst eQ
            exact W.iret (v := z_16) hx hb hr (fun t ht hW => ⟨⟨z_16, (), rfl, trivial, trivial⟩, hS.F ht⟩) hS.2.2 dX0_toldToMaker_50
          · refine lv_if_eq (tgt := 51) hx hb dX0_toldToMaker_31 (by decide) (fun _ => ?_) (fun c9 => absurd c9 (by decide))
            obtain ⟨i_17, ei_17⟩ : ∃ y : Int32, y = i2 + 1 := ⟨_, rfl⟩
            refine lv_iinc (v := i_17) (lv' := [(2, .int i_17), (0, .ref x0), (1, .int k0)]) hx hb dX0_toldToMaker_51 hl (k := 0) rfl (by rw [ei_17]; rfl) (by decide) rfl (fun ls hl => ?_)
            have ki_17 := inc_toInt ei_17 (by omega)
            refine lv_goto (tgt := 4) hx hb dX0_toldToMaker_54 (by decide) ?_
            exact ih_4 i_17 _ _ _  (by omega) (by omega) hP hS (lv_sub hl [0, 1, 2] rfl)
  exact loop_4 301 z_1 _ _ _  (by omega) (by omega) hP hS hl
set_option maxRecDepth 20000 in
theorem in_t_X2_madeAs_X2 : ∀ w ∈ u_ws RX2 TX2 9, w ∈ wsX2_madeAs := by decide +kernel
set_option maxRecDepth 100000 in
set_option maxHeartbeats 4000000 in
theorem t_X2_madeAs (l : Launch) (dC : Nat → ClassId) (dI : Nat → Nat → Nat) (TT : Nat × Nat × Nat) (sz : Nat) (kT kI kJ : ClassId) (K : Nat → Nat) (L : List Nat) (f : Nat → va_E) (hPI : PI kT kI kJ K L f) (h0 : Nat) (hh0 : isr K L 2 h0) (n0 : Int64) : Met l yX2_madeAs wsX2_madeAs ({ frames := 0, cells := 0, slots := 0, locals := 0 } : Room) (va_Pc [.ref h0, .long n0] (pr dC dI (va_pl L f) [] [(kT, .object RX1), (kI, .int), (kJ, .long)] sz TT)) (va_Qq (fun (r : Option Nat) (u : Unit) => opr K L 1 r) (fun _ _ => True) (va_A [] sz)) 0 0 (va_A [] sz) := by
  refine Met.ofW (cc := cX2_madeAs) (maxL := 3) (ret := (some (.object "FieldLeaves$Thing"))) (by decide) rfl ?_
  intro p e s m args below meth c s₁ B hml hv
  obtain ⟨rfl, hsz, hP, hK, hD0, hst⟩ := hv
  have hx := B.exec
  have hb := B.bytes
  have hr := B.returns
  have hts := atoms_spec (ws := wsX2_madeAs) B.pre
  have hown : s.vm.findClass RX2 = some m.cls := findClass_of_methodNamed B.named
  have hlocks := B.notSynchronized
  have iX2_ := in_t_X2_madeAs_X2
  subst hsz
  have hD := hD0.self (sz := s.heap.size)
  generalize hAe : va_A [] s.heap.size = A at hD hst ⊢
  have hA : ∀ q : Nat, s.heap.size ≤ q → A q := fun q h => by rw [← hAe]; exact Or.inr h
  have hS : va_S A s.heap s.heap [] := va_S.rf
  have hl := lv_entry ([.ref h0, .long n0]) (n := 3) (Nat.le_of_ble_eq_true rfl)
  rw [lg_entry_eq]
  generalize (lg_sl ([.ref h0, .long n0]) ++ List.replicate (3 - (lg_sl ([.ref h0, .long n0])).length) Slot.unset).toArray = ls at hl ⊢
  have hl : lv_has ls 3 [(0, .ref h0), (1, .long n0)] := hl
  have kl0_ : Int64.toInt 0 = 0 := by decide
  refine lv_lload_n hx hb dX2_madeAs_0 rfl (lv_at hl 1 rfl) ?_
  refine lv_lconst (v := 0) hx hb dX2_madeAs_1 (by decide) ?_
  refine W.lcmp hx hb dX2_madeAs_2 ?_
  refine lv_if_lt (tgt := 16) hx hb dX2_madeAs_3 (by decide) (fun c_1 => ?_) (fun c_1 => ?_)
  · have c_1 := Int64.lt_iff_toInt_lt.mp ((lg_cmp_lt n0 0).mp c_1)
    refine lv_null hx hb dX2_madeAs_16 ?_
    refine lv_goto (tgt := 27) hx hb dX2_madeAs_17 (by decide) ?_
    exact W.aret (v := va_rf none) hx hb hr (Or.inl ⟨_, rfl⟩) (va_rf_or _) (fun t ht hW => ⟨⟨none, (), rfl, (fun _ h9 => by cases h9), trivial⟩, hS.F ht⟩) hS.2.2 dX2_madeAs_27
  · have c_1 := mt (fun h9 => (lg_cmp_lt n0 0).mpr (Int64.lt_iff_toInt_lt.mpr h9)) c_1
    refine lv_lload_n hx hb dX2_madeAs_6 rfl (lv_at hl 1 rfl) ?_
    refine lv_aload_n hx hb dX2_madeAs_7 rfl (lv_at hl 0 rfl) ?_
    obtain ⟨q1_2, pc_2, c1_2, c2_2, c3_2, q5_2, fc_2, q7_2, mc_2, e_2, fq1_2, fc1_2, fc2_2, fc3_2, fq5_2, ffc_2, fq7_2, fmc_2⟩ := hPI.a2 hh0
    obtain ⟨k_2, hk_2⟩ := va_plg hh0.1 e_2
    refine va_get (D := (dC, dI)) (ci := 2) (v := .int mc_2) (C := RX2) (T := TX2) (N := 9) hx hb hts iX2_ hown hK hP k_2 hk_2 rfl 8 (by decide) (hts (.fieldLink RX2 147 "FieldLeaves" "madeCount" "I") (by decide +kernel)) (fun _ h9 => h9) rfl dX2_madeAs_8 ?_
    refine lv_i2l (v := Int32.toInt64 mc_2) hx hb dX2_madeAs_11 rfl ?_
    have k_z_3 := Int32.toInt_toInt64 mc_2
    refine W.lcmp hx hb dX2_madeAs_12 ?_
    refine lv_if_lt (tgt := 20) hx hb dX2_madeAs_13 (by decide) (fun c_4 => ?_) (fun c_4 => ?_)
    · have c_4 := Int64.lt_iff_toInt_lt.mp ((lg_cmp_lt n0 (Int32.toInt64 mc_2)).mp c_4)
      refine lv_aload_n hx hb dX2_madeAs_20 rfl (lv_at hl 0 rfl) ?_
      obtain ⟨k_5, hk_5⟩ := va_plg hh0.1 e_2
      refine va_get (D := (dC, dI)) (ci := 2) (v := .ref q7_2) (C := RX2) (T := TX2) (N := 9) hx hb hts iX2_ hown hK hP k_5 hk_5 rfl 7 (by decide) (hts (.fieldLink RX2 31 "FieldLeaves" "made" "[LFieldLeaves$Thing;") (by decide +kernel)) (fun _ h9 => h9) rfl dX2_madeAs_21 ?_
      refine lv_lload_n hx hb dX2_madeAs_24 rfl (lv_at hl 1 rfl) ?_
      refine lv_l2i hx hb dX2_madeAs_25 rfl ?_
      refine lv_topi (fun z_6 ez_6 => ?_)
      have kz_6 := l2i_small ez_6 (by omega) (by omega)
      obtain ⟨g_7, e_7, fg_7⟩ := hPI.a6 fq7_2
      obtain ⟨k_7, hk_7⟩ := va_plg fq7_2.1 e_7
      have h_7 : vp_in z_6 24 := (vp_in_iff.mpr (by constructor <;> omega))
      refine va_aldq hx hb hK hP k_7 0 hk_7 rfl h_7 dX2_madeAs_26 ?_
      have fo_7 := fg_7 _ (vp_lt h_7)
      generalize eo_7 : g_7 (Int32.toNatClampNeg z_6) = o_7 at fo_7 ⊢
      rcases o_7 with _ | y_8
      · refine W.eq (g2 := F0 m 27 ls [.null]) rfl ?_
        exact W.aret (v := va_rf none) hx hb hr (Or.inl ⟨_, rfl⟩) (va_rf_or _) (fun t ht hW => ⟨⟨none, (), rfl, (fun _ h9 => by cases h9), trivial⟩, hS.F ht⟩) hS.2.2 dX2_madeAs_27
      · have fy_8 := fo_7 y_8 rfl
        refine W.eq (g2 := F0 m 27 ls [.ref y_8]) rfl ?_
        exact W.aret (v := va_rf (some y_8)) hx hb hr (Or.inl ⟨_, rfl⟩) (va_rf_or _) (fun t ht hW => ⟨⟨(some y_8), (), rfl, (fun _ h9 => by cases h9; exact fy_8), trivial⟩, hS.F ht⟩) hS.2.2 dX2_madeAs_27
    · have c_4 := mt (fun h9 => (lg_cmp_lt n0 (Int32.toInt64 mc_2)).mpr (Int64.lt_iff_toInt_lt.mpr h9)) c_4
      refine lv_null hx hb dX2_madeAs_16 ?_
      refine lv_goto (tgt := 27) hx hb dX2_madeAs_17 (by decide) ?_
      exact W.aret (v := va_rf none) hx hb hr (Or.inl ⟨_, rfl⟩) (va_rf_or _) (fun t ht hW => ⟨⟨none, (), rfl, (fun _ h9 => by cases h9), trivial⟩, hS.F ht⟩) hS.2.2 dX2_madeAs_27
set_option maxRecDepth 100000 in
set_option maxHeartbeats 4000000 in
theorem t_X2_fillPlace_null (l : Launch) (dC : Nat → ClassId) (dI : Nat → Nat → Nat) (TT : Nat × Nat × Nat) (sz : Nat) (kT kI kJ : ClassId) (K : Nat → Nat) (L : List Nat) (f : Nat → va_E) (hPI : PI kT kI kJ K L f) (p0 : Int32) (v0 : Int32) : Met l yX2_fillPlace wsX2_fillPlace ({ frames := 0, cells := 0, slots := 0, locals := 0 } : Room) (va_Pc [.null, .int p0, .int v0] (pr dC dI (va_pl L f) [] [(kT, .object RX1), (kI, .int), (kJ, .long)] sz TT)) (va_Qv (fun (u : Unit) => True) (fun _ _ => True) (va_A [] sz)) 0 0 (va_A [] sz) := by
  refine Met.ofW (cc := cX2_fillPlace) (maxL := 3) (ret := none) (by decide) rfl ?_
  intro p e s m args below meth c s₁ B hml hv
  obtain ⟨rfl, hsz, hP, hK, hD0, hst⟩ := hv
  have hx := B.exec
  have hb := B.bytes
  have hr := B.returns
  have hts := atoms_spec (ws := wsX2_fillPlace) B.pre
  have hown : s.vm.findClass RX2 = some m.cls := findClass_of_methodNamed B.named
  have hlocks := B.notSynchronized
  subst hsz
  have hD := hD0.self (sz := s.heap.size)
  generalize hAe : va_A [] s.heap.size = A at hD hst ⊢
  have hA : ∀ q : Nat, s.heap.size ≤ q → A q := fun q h => by rw [← hAe]; exact Or.inr h
  have hS : va_S A s.heap s.heap [] := va_S.rf
  have hl := lv_entry ([.null, .int p0, .int v0]) (n := 3) (Nat.le_of_ble_eq_true rfl)
  rw [lg_entry_eq]
  generalize (lg_sl ([.null, .int p0, .int v0]) ++ List.replicate (3 - (lg_sl ([.null, .int p0, .int v0])).length) Slot.unset).toArray = ls at hl ⊢
  have hl : lv_has ls 3 [(0, .null), (1, .int p0), (2, .int v0)] := hl
  refine lv_aload_nN hx hb dX2_fillPlace_0 rfl (lv_at hl 0 rfl) ?_
  refine lv_ifnullN (tgt := 14) hx hb dX2_fillPlace_1 (by decide) ?_
  exact W.vret hx hb hr (fun t ht hW => ⟨⟨(), rfl, trivial, trivial⟩, hS.F ht⟩) hS.2.2 dX2_fillPlace_14
set_option maxRecDepth 100000 in
set_option maxHeartbeats 4000000 in
theorem t_X2_fillPlace (l : Launch) (dC : Nat → ClassId) (dI : Nat → Nat → Nat) (TT : Nat × Nat × Nat) (sz : Nat) (kT kI kJ : ClassId) (K : Nat → Nat) (L : List Nat) (f : Nat → va_E) (hPI : PI kT kI kJ K L f) (x0 : Nat) (hx0 : isr K L 4 x0) (p0 : Int32) (v0 : Int32) (hp0 : 0 ≤ p0.toInt) : Met l yX2_fillPlace wsX2_fillPlace ({ frames := 0, cells := 0, slots := 0, locals := 0 } : Room) (va_Pc [.ref x0, .int p0, .int v0] (pr dC dI (va_pl L f) (va_pl L f) [(kT, .object RX1), (kI, .int), (kJ, .long)] sz TT)) (va_Qv (fun (u : Unit) => True) (fun (_ : Unit) t => ∃ f2 : Nat → va_E, PI kT kI kJ K L f2 ∧ va_P (dC, dI) vwCl (va_pl L f2) t.heap ∧ va_D (va_A (va_pl L f) sz) (va_pl L f2)) (va_A (va_pl L f) sz)) 0 0 (va_A (va_pl L f) sz) := by
  refine Met.ofW (cc := cX2_fillPlace) (maxL := 3) (ret := none) (by decide) rfl ?_
  intro p e s m args below meth c s₁ B hml hv
  obtain ⟨rfl, hsz, hP, hK, hD0, hst⟩ := hv
  have hx := B.exec
  have hb := B.bytes
  have hr := B.returns
  have hts := atoms_spec (ws := wsX2_fillPlace) B.pre
  have hown : s.vm.findClass RX2 = some m.cls := findClass_of_methodNamed B.named
  have hlocks := B.notSynchronized
  subst hsz
  have hD := hD0.self (sz := s.heap.size)
  generalize hAe : va_A (va_pl L f) s.heap.size = A at hD hst ⊢
  have hA : ∀ q : Nat, s.heap.size ≤ q → A q := fun q h => by rw [← hAe]; exact Or.inr h
  have hS : va_S A s.heap s.heap [] := va_S.rf
  have hl := lv_entry ([.ref x0, .int p0, .int v0]) (n := 3) (Nat.le_of_ble_eq_true rfl)
  rw [lg_entry_eq]
  generalize (lg_sl ([.ref x0, .int p0, .int v0]) ++ List.replicate (3 - (lg_sl ([.ref x0, .int p0, .int v0])).length) Slot.unset).toArray = ls at hl ⊢
  have hl : lv_has ls 3 [(0, .ref x0), (1, .int p0), (2, .int v0)] := hl
  refine lv_aload_n hx hb dX2_fillPlace_0 rfl (lv_at hl 0 rfl) ?_
  refine lv_ifnull hx hb dX2_fillPlace_1 ?_
  refine lv_iload_n hx hb dX2_fillPlace_4 rfl (lv_at hl 1 rfl) ?_
  refine lv_aload_n hx hb dX2_fillPlace_5 rfl (lv_at hl 0 rfl) ?_
  obtain ⟨n_1, g_1, e_1, fn_1⟩ := hPI.a4 hx0
  have kn_1 := nI_len fn_1
  obtain ⟨k_1, hk_1⟩ := va_plg hx0.1 e_1
  refine va_alen hx hb hK hP k_1 1 hk_1 rfl (v := Int32.ofNat n_1) rfl dX2_fillPlace_6 ?_
  refine lv_icmp_ge (tgt := 14) hx hb dX2_fillPlace_7 (by decide) (fun c_2 => ?_) (fun c_2 => ?_)
  · have c_2 := Int32.le_iff_toInt_le.mp c_2
    exact W.vret hx hb hr (fun t ht hW => ⟨⟨(), rfl, trivial, f, hPI, by rw [ht]; exact hP, hD⟩, hS.F ht⟩) hS.2.2 dX2_fillPlace_14
  · have c_2 := mt Int32.le_iff_toInt_le.mpr c_2
    refine lv_aload_n hx hb dX2_fillPlace_10 rfl (lv_at hl 0 rfl) ?_
    refine lv_iload_n hx hb dX2_fillPlace_11 rfl (lv_at hl 1 rfl) ?_
    refine lv_iload_n hx hb dX2_fillPlace_12 rfl (lv_at hl 2 rfl) ?_
    obtain ⟨k_3, hk_3⟩ := va_plg hx0.1 e_1
    have h_3 : vp_in p0 n_1 := (vp_in_iff.mpr (by constructor <;> omega))
    have hD9 := hD
    refine va_iast hx hb hK hP hD hS k_3 1 hk_3 rfl h_3 dX2_fillPlace_13 (fun H locs hP hD hS => ?_)
    have hP : va_P (dC, dI) vwCl (va_pl L (va_up f x0 (.inl (kI, n_1, .inl (upd g_1 (Int32.toNatClampNeg p0) v0))))) H := by rw [← va_pls hD9 hx0.1 hk_3 _]; exact hP
    have hD : va_D A (va_pl L (va_up f x0 (.inl (kI, n_1, .inl (upd g_1 (Int32.toNatClampNeg p0) v0))))) := by rw [← va_pls hD9 hx0.1 hk_3 _]; exact hD
    have hPI := hPI.put (e := .inl (kI, n_1, .inl (upd g_1 (Int32.toNatClampNeg p0) v0))) hx0 ⟨_, _, rfl, fn_1⟩
    have es_f_4 : va_up f x0 (.inl (kI, n_1, .inl (upd g_1 (Int32.toNatClampNeg p0) v0))) x0 = .inl (kI, n_1, .inl (upd g_1 (Int32.toNatClampNeg p0) v0)) := va_up_self _ _ _
    generalize va_up f x0 (.inl (kI, n_1, .inl (upd g_1 (Int32.toNatClampNeg p0) v0))) = f_4 at hP hD hPI es_f_4 
    exact W.vret hx hb hr (fun t ht hW => ⟨⟨(), rfl, trivial, f_4, hPI, by rw [ht]; exact hP, hD⟩, hS.F ht⟩) hS.2.2 dX2_fillPlace_14
set_option maxRecDepth 100000 in
set_option maxHeartbeats 4000000 in
theorem t_X2_fillLink (l : Launch) (dC : Nat → ClassId) (dI : Nat → Nat → Nat) (TT : Nat × Nat × Nat) (sz : Nat) (kT kI kJ : ClassId) (K : Nat → Nat) (L : List Nat) (f : Nat → va_E) (hPI : PI kT kI kJ K L f) (h0 : Nat) (hh0 : isr K L 2 h0) (x0 : Nat) (hx0 : isr K L 1 x0) (f0 : Int32) (v0 : Int64) : Met l yX2_fillLink wsX2_fillLink ({ frames := 1, cells := 0, slots := 0, locals := 22 } : Room) (va_Pc [.ref h0, .ref x0, .int f0, .long v0] (pr dC dI (va_pl L f) (va_pl L f) [(kT, .object RX1), (kI, .int), (kJ, .long)] sz TT)) (va_Qi (fun (r : Int32) (u : Unit) => True) (fun (_ : Unit) t => ∃ f2 : Nat → va_E, PI kT kI kJ K L f2 ∧ va_P (dC, dI) vwCl (va_pl L f2) t.heap ∧ va_D (va_A (va_pl L f) sz) (va_pl L f2)) (va_A (va_pl L f) sz)) 0 0 (va_A (va_pl L f) sz) := by
  refine Met.ofW (cc := cX2_fillLink) (maxL := 6) (ret := (some .int)) (by decide) rfl ?_
  intro p e s m args below meth c s₁ B hml hv
  obtain ⟨rfl, hsz, hP, hK, hD0, hst⟩ := hv
  have hx := B.exec
  have hb := B.bytes
  have hr := B.returns
  have hts := atoms_spec (ws := wsX2_fillLink) B.pre
  have hown : s.vm.findClass RX2 = some m.cls := findClass_of_methodNamed B.named
  have hlocks := B.notSynchronized
  subst hsz
  have hD := hD0.self (sz := s.heap.size)
  generalize hAe : va_A (va_pl L f) s.heap.size = A at hD hst ⊢
  have hA : ∀ q : Nat, s.heap.size ≤ q → A q := fun q h => by rw [← hAe]; exact Or.inr h
  have hS : va_S A s.heap s.heap [] := va_S.rf
  have hl := lv_entry ([.ref h0, .ref x0, .int f0, .long v0]) (n := 6) (Nat.le_of_ble_eq_true rfl)
  rw [lg_entry_eq]
  generalize (lg_sl ([.ref h0, .ref x0, .int f0, .long v0]) ++ List.replicate (6 - (lg_sl ([.ref h0, .ref x0, .int f0, .long v0])).length) Slot.unset).toArray = ls at hl ⊢
  have hl : lv_has ls 6 [(0, .ref h0), (1, .ref x0), (2, .int f0), (3, .long v0)] := hl
  have km14_ : Int32.toInt (-14) = -14 := by decide
  have km12_ : Int32.toInt (-12) = -12 := by decide
  have k0_ : Int32.toInt 0 = 0 := by decide
  refine lv_aload_n hx hb dX2_fillLink_0 rfl (lv_at hl 0 rfl) ?_
  refine lv_lload_n hx hb dX2_fillLink_1 rfl (lv_at hl 3 rfl) ?_
  obtain ⟨q1_1, pc_1, c1_1, c2_1, c3_1, q5_1, fc_1, q7_1, mc_1, e_1, fq1_1, fc1_1, fc2_1, fc3_1, fq5_1, ffc_1, fq7_1, fmc_1⟩ := hPI.a2 hh0
  obtain ⟨k_1, hk_1⟩ := va_plg hh0.1 e_1
  refine va_callq (va_runV (b := h0) (As := [.long v0]) (rest := []) ⟨hx, hb, hml, hown, hts⟩ (t_X2_madeAs l dC dI TT s.heap.size kT kI kJ K L f hPI h0 hh0 v0) (cwV 1 hts gX2_fillLink_X2_madeAs rfl rfl rfl (by decide +kernel) ⟨Nat.le_of_ble_eq_true rfl, Nat.le_of_ble_eq_true rfl⟩) ⟨pr_blind, va_recv hK hP (ci := 2) rfl hk_1, (pr_S (ws := va_pl L f) (wA := []) (tys := [(kT, .object RX1), (kI, .int), (kJ, .long)]) hP hK vd_nil hst hS (ro_free hS hA)).2⟩ rfl rfl hl.1 rfl (lv_room (Nat.le_of_ble_eq_true rfl)) dX2_fillLink_2 ⟨Nat.le_of_ble_eq_true rfl, Nat.le_of_ble_eq_true rfl⟩) hS (fun q _ h => (ro_free hS hA) q h) (ro_free hS hA) (fun r_2 u t H1 locs ht hvm hw hB hz1 hk1 hS => ?_)
  have hP := ro_keep hP hk1
  generalize H1 = H at hP hS ⊢
  rcases r_2 with _ | y_3
  · refine W.eq (g2 := F0 m 5 ls [.null]) rfl ?_
    refine lv_astoreN (lv' := [(5, .null), (0, .ref h0), (1, .ref x0), (2, .int f0), (3, .long v0)]) hx hb dX2_fillLink_5 hl (by decide) rfl (fun ls hl => ?_)
    refine lv_aloadN hx hb dX2_fillLink_7 (lv_at hl 0 rfl) ?_
    refine lv_ifnonnullN hx hb dX2_fillLink_9 ?_
    refine lv_bipush (v := (-12)) hx hb dX2_fillLink_12 (by decide) ?_
    exact W.iret (v := (-12)) hx hb hr (fun t ht hW => ⟨⟨(-12), (), rfl, trivial, f, hPI, by rw [ht]; exact hP, hD⟩, hS.F ht⟩) hS.2.2 dX2_fillLink_14
  · have fy_3 := hw y_3 rfl
    refine W.eq (g2 := F0 m 5 ls [.ref y_3]) rfl ?_
    refine lv_astore (lv' := [(5, .ref y_3), (0, .ref h0), (1, .ref x0), (2, .int f0), (3, .long v0)]) hx hb dX2_fillLink_5 hl (by decide) rfl (fun ls hl => ?_)
    refine lv_aload hx hb dX2_fillLink_7 (lv_at hl 0 rfl) ?_
    refine lv_ifnonnull (tgt := 15) hx hb dX2_fillLink_9 (by decide) ?_
    refine lv_aload hx hb dX2_fillLink_15 (lv_at hl 0 rfl) ?_
    refine lv_iload_n hx hb dX2_fillLink_17 rfl (lv_at hl 3 rfl) ?_
    refine va_calli (va_runS (As := [.int f0]) (rest := [.ref y_3]) ⟨hx, hb, hml, hown, hts⟩ (c_X2_wantedIn l dC dI TT H.size f0) (va_cwS 1 hts gX2_fillLink_X2_wantedIn rfl rfl rfl (by decide +kernel) ⟨Nat.le_of_ble_eq_true rfl, Nat.le_of_ble_eq_true rfl⟩) (pr_S (ws := []) (wA := []) (tys := []) vp_nil (hK.sub [] rfl) vd_nil hst hS (ro_free hS hA)) rfl rfl hl.1 rfl (lv_room (Nat.le_of_ble_eq_true rfl)) dX2_fillLink_18 ⟨Nat.le_of_ble_eq_true rfl, Nat.le_of_ble_eq_true rfl⟩) hS (fun q _ h => (ro_free hS hA) q h) (ro_free hS hA) (fun r_4 u t H1 locs ht hvm hw hB hz1 hk1 hS => ?_)
    have hP := ro_keep hP hk1
    generalize H1 = H at hP hS ⊢
    obtain ⟨cn_5, v_5, b_5, m_5, st_5, i_5, e_5, fv_5, fb_5, fm_5, fst_5, fi_5⟩ := hPI.a1 fy_3
    obtain ⟨k_5, hk_5⟩ := va_plg fy_3.1 e_5
    refine va_calli (va_runV (b := y_3) (As := [.int r_4]) (rest := []) ⟨hx, hb, hml, hown, hts⟩ (t_X1_isOf l dC dI TT H.size kT kI kJ K L f hPI y_3 fy_3 r_4) (cwV 1 hts gX2_fillLink_X1_isOf rfl rfl rfl (by decide +kernel) ⟨Nat.le_of_ble_eq_true rfl, Nat.le_of_ble_eq_true rfl⟩) ⟨pr_blind, va_recv hK hP (ci := 1) rfl hk_5, (pr_S (ws := va_pl L f) (wA := []) (tys := [(kT, .object RX1), (kI, .int), (kJ, .long)]) hP hK vd_nil hst hS (ro_free hS hA)).2⟩ rfl rfl hl.1 rfl (lv_room (Nat.le_of_ble_eq_true rfl)) dX2_fillLink_21 ⟨Nat.le_of_ble_eq_true rfl, Nat.le_of_ble_eq_true rfl⟩) hS (fun q _ h => (ro_free hS hA) q h) (ro_free hS hA) (fun r_6 u t H1 locs ht hvm hw hB hz1 hk1 hS => ?_)
    have hP := ro_keep hP hk1
    generalize H1 = H at hP hS ⊢
    rcases hw with rfl | rfl
    · refine lv_if_ne (tgt := 30) hx hb dX2_fillLink_24 (by decide) (fun _ => ?_) (fun c9 => absurd c9 (by decide))
      refine lv_aload_n hx hb dX2_fillLink_30 rfl (lv_at hl 2 rfl) ?_
      refine lv_iload_n hx hb dX2_fillLink_31 rfl (lv_at hl 3 rfl) ?_
      refine lv_aload hx hb dX2_fillLink_32 (lv_at hl 0 rfl) ?_
      have hFc := pl_free hD hS hA
      obtain ⟨cn_7, v_7, b_7, m_7, st_7, i_7, e_7, fv_7, fb_7, fm_7, fst_7, fi_7⟩ := hPI.a1 hx0
      obtain ⟨k_7, hk_7⟩ := va_plg hx0.1 e_7
      refine va_callv (va_runV (b := x0) (As := [.int f0, .ref y_3]) (rest := []) ⟨hx, hb, hml, hown, hts⟩ (t_X1_hold l dC dI TT H.size kT kI kJ K L f hPI x0 hx0 f0 y_3 fy_3) (cwV 2 hts gX2_fillLink_X1_hold rfl rfl rfl (by decide +kernel) ⟨Nat.le_of_ble_eq_true rfl, Nat.le_of_ble_eq_true rfl⟩) ⟨pr_blind, va_recv hK hP (ci := 1) rfl hk_7, (pr_S (ws := va_pl L f) (wA := va_pl L f) (tys := [(kT, .object RX1), (kI, .int), (kJ, .long)]) hP hK (hD.weaken (fun _ _ _ _ => trivial)) hst hS hFc).2⟩ rfl rfl hl.1 rfl (lv_room (Nat.le_of_ble_eq_true rfl)) dX2_fillLink_34 ⟨Nat.le_of_ble_eq_true rfl, Nat.le_of_ble_eq_true rfl⟩) hS (fun q _ h => hFc q h) hFc (fun u t H1 locs ht hvm hw hB hz1 hk1 hS => ?_)
      obtain ⟨f_9, hPI, hP, hD9⟩ := hB
      rw [ht] at hP
      have hD := hD9.weaken (fun _ q _ h => hFc q.1 h)
      generalize H1 = H at hP hS ⊢
      refine lv_iconst (v := 0) hx hb dX2_fillLink_37 (by decide) ?_
      exact W.iret (v := 0) hx hb hr (fun t ht hW => ⟨⟨0, (), rfl, trivial, f_9, hPI, by rw [ht]; exact hP, hD⟩, hS.F ht⟩) hS.2.2 dX2_fillLink_38
    · refine lv_if_ne (tgt := 30) hx hb dX2_fillLink_24 (by decide) (fun c9 => absurd c9 (by decide)) (fun _ => ?_)
      refine lv_bipush (v := (-14)) hx hb dX2_fillLink_27 (by decide) ?_
      exact W.iret (v := (-14)) hx hb hr (fun t ht hW => ⟨⟨(-14), (), rfl, trivial, f, hPI, by rw [ht]; exact hP, hD⟩, hS.F ht⟩) hS.2.2 dX2_fillLink_29
set_option maxRecDepth 20000 in
theorem in_t_X2_fillField_X1 : ∀ w ∈ u_ws RX1 TX1 6, w ∈ wsX2_fillField := by decide +kernel
set_option maxRecDepth 100000 in
set_option maxHeartbeats 4000000 in
theorem t_X2_fillField (l : Launch) (dC : Nat → ClassId) (dI : Nat → Nat → Nat) (TT : Nat × Nat × Nat) (sz : Nat) (kT kI kJ : ClassId) (K : Nat → Nat) (L : List Nat) (f : Nat → va_E) (hPI : PI kT kI kJ K L f) (h0 : Nat) (hh0 : isr K L 2 h0) (x0 : Nat) (hx0 : isr K L 1 x0) (f0 : Int32) (v0 : Int64) : Met l yX2_fillField wsX2_fillField ({ frames := 2, cells := 1, slots := 20, locals := 47 } : Room) (va_Pc [.ref h0, .ref x0, .int f0, .long v0] (pr dC dI (va_pl L f) (va_pl L f) [(kT, .object RX1), (kI, .int), (kJ, .long)] sz TT)) (va_Qi (fun (r : Int32) (u : Unit) => True) (fun (_ : Unit) t => ∃ (K2 : Nat → Nat) (L2 : List Nat) (f2 : Nat → va_E), PI kT kI kJ K2 L2 f2 ∧ EXT K L K2 L2 ∧ va_P (dC, dI) vwCl (va_pl L2 f2) t.heap ∧ va_D (va_A (va_pl L f) sz) (va_pl L2 f2)) (va_A (va_pl L f) sz)) 1 20 (va_A (va_pl L f) sz) := by
  refine Met.ofW (cc := cX2_fillField) (maxL := 5) (ret := (some .int)) (by decide) rfl ?_
  intro p e s m args below meth c s₁ B hml hv
  obtain ⟨rfl, hsz, hP, hK, hD0, hst⟩ := hv
  have hx := B.exec
  have hb := B.bytes
  have hr := B.returns
  have hts := atoms_spec (ws := wsX2_fillField) B.pre
  have hown : s.vm.findClass RX2 = some m.cls := findClass_of_methodNamed B.named
  have hlocks := B.notSynchronized
  have iX1_ := in_t_X2_fillField_X1
  subst hsz
  have hD := hD0.self (sz := s.heap.size)
  generalize hAe : va_A (va_pl L f) s.heap.size = A at hD hst ⊢
  have hA : ∀ q : Nat, s.heap.size ≤ q → A q := fun q h => by rw [← hAe]; exact Or.inr h
  have hS : va_S A s.heap s.heap [] := va_S.rf
  have hl := lv_entry ([.ref h0, .ref x0, .int f0, .long v0]) (n := 5) (Nat.le_of_ble_eq_true rfl)
  rw [lg_entry_eq]
  generalize (lg_sl ([.ref h0, .ref x0, .int f0, .long v0]) ++ List.replicate (5 - (lg_sl ([.ref h0, .ref x0, .int f0, .long v0])).length) Slot.unset).toArray = ls at hl ⊢
  have hl : lv_has ls 5 [(0, .ref h0), (1, .ref x0), (2, .int f0), (3, .long v0)] := hl
  have k0_ : Int32.toInt 0 = 0 := by decide
  have k9_ : Int32.toInt 9 = 9 := by decide
  have k20_ : Int32.toInt 20 = 20 := by decide
  have k100_ : Int32.toInt 100 = 100 := by decide
  have kl0_ : Int64.toInt 0 = 0 := by decide
  have kl20_ : Int64.toInt 20 = 20 := by decide
  refine lv_iload_n hx hb dX2_fillField_0 rfl (lv_at hl 2 rfl) ?_
  refine va_calli (va_runS (As := [.int f0]) (rest := []) ⟨hx, hb, hml, hown, hts⟩ (c_X2_isLinkField l dC dI TT s.heap.size f0) (va_cwS 1 hts gX2_fillField_X2_isLinkField rfl rfl rfl (by decide +kernel) ⟨Nat.le_of_ble_eq_true rfl, Nat.le_of_ble_eq_true rfl⟩) (pr_S (ws := []) (wA := []) (tys := []) vp_nil (hK.sub [] rfl) vd_nil hst hS (ro_free hS hA)) rfl rfl hl.1 rfl (lv_room (Nat.le_of_ble_eq_true rfl)) dX2_fillField_1 ⟨Nat.le_of_ble_eq_true rfl, Nat.le_of_ble_eq_true rfl⟩) hS (fun q _ h => (ro_free hS hA) q h) (ro_free hS hA) (fun r_1 u t H1 locs ht hvm hw hB hz1 hk1 hS => ?_)
  have hP := ro_keep hP hk1
  generalize H1 = H at hP hS ⊢
  rcases hw with ⟨rfl, hp_2⟩ | ⟨rfl, hp_2⟩
  · refine lv_if_eq (tgt := 15) hx hb dX2_fillField_4 (by decide) (fun c9 => absurd c9 (by decide)) (fun _ => ?_)
    refine lv_aload_n hx hb dX2_fillField_7 rfl (lv_at hl 0 rfl) ?_
    refine lv_aload_n hx hb dX2_fillField_8 rfl (lv_at hl 1 rfl) ?_
    refine lv_iload_n hx hb dX2_fillField_9 rfl (lv_at hl 2 rfl) ?_
    refine lv_lload_n hx hb dX2_fillField_10 rfl (lv_at hl 3 rfl) ?_
    have hFc := pl_free hD hS hA
    obtain ⟨q1_3, pc_3, c1_3, c2_3, c3_3, q5_3, fc_3, q7_3, mc_3, e_3, fq1_3, fc1_3, fc2_3, fc3_3, fq5_3, ffc_3, fq7_3, fmc_3⟩ := hPI.a2 hh0
    obtain ⟨k_3, hk_3⟩ := va_plg hh0.1 e_3
    refine va_calli (va_runV (b := h0) (As := [.ref x0, .int f0, .long v0]) (rest := []) ⟨hx, hb, hml, hown, hts⟩ (t_X2_fillLink l dC dI TT H.size kT kI kJ K L f hPI h0 hh0 x0 hx0 f0 v0) (cwV 3 hts gX2_fillField_X2_fillLink rfl rfl rfl (by decide +kernel) ⟨Nat.le_of_ble_eq_true rfl, Nat.le_of_ble_eq_true rfl⟩) ⟨pr_blind, va_recv hK hP (ci := 2) rfl hk_3, (pr_S (ws := va_pl L f) (wA := va_pl L f) (tys := [(kT, .object RX1), (kI, .int), (kJ, .long)]) hP hK (hD.weaken (fun _ _ _ _ => trivial)) hst hS hFc).2⟩ rfl rfl hl.1 rfl (lv_room (Nat.le_of_ble_eq_true rfl)) dX2_fillField_11 ⟨Nat.le_of_ble_eq_true rfl, Nat.le_of_ble_eq_true rfl⟩) hS (fun q _ h => hFc q h) hFc (fun r_4 u t H1 locs ht hvm hw hB hz1 hk1 hS => ?_)
    obtain ⟨f_5, hPI, hP, hD9⟩ := hB
    rw [ht] at hP
    have hD := hD9.weaken (fun _ q _ h => hFc q.1 h)
    generalize H1 = H at hP hS ⊢
    refine W.widen (k := 1) (n := 20) (by omega) (by omega) ?_
    exact W.iret (v := r_4) hx hb hr (fun t ht hW => ⟨⟨r_4, (), rfl, trivial, K, L, f_5, hPI, EXT.rf, by rw [ht]; exact hP, hD⟩, hS.F ht⟩) hS.2.2 dX2_fillField_14
  · refine lv_if_eq (tgt := 15) hx hb dX2_fillField_4 (by decide) (fun _ => ?_) (fun c9 => absurd c9 (by decide))
    refine lv_iload_n hx hb dX2_fillField_15 rfl (lv_at hl 2 rfl) ?_
    refine lv_bipush (v := 9) hx hb dX2_fillField_16 (by decide) ?_
    refine lv_icmp_ne (tgt := 50) hx hb dX2_fillField_18 (by decide) (fun c_6 => ?_) (fun c_6 => ?_)
    · have c_6 := mt Int32.toInt_inj.mp c_6
      refine lv_iload_n hx hb dX2_fillField_50 rfl (lv_at hl 2 rfl) ?_
      refine lv_bipush (v := 100) hx hb dX2_fillField_51 (by decide) ?_
      refine lv_icmp_lt (tgt := 72) hx hb dX2_fillField_53 (by decide) (fun c_7 => ?_) (fun c_7 => ?_)
      · have c_7 := Int32.lt_iff_toInt_lt.mp c_7
        refine lv_iload_n hx hb dX2_fillField_72 rfl (lv_at hl 2 rfl) ?_
        refine va_calli (va_runS (As := [.int f0]) (rest := []) ⟨hx, hb, hml, hown, hts⟩ (c_X2_isValueField l dC dI TT H.size f0) (va_cwS 1 hts gX2_fillField_X2_isValueField rfl rfl rfl (by decide +kernel) ⟨Nat.le_of_ble_eq_true rfl, Nat.le_of_ble_eq_true rfl⟩) (pr_S (ws := []) (wA := []) (tys := []) vp_nil (hK.sub [] rfl) vd_nil hst hS (ro_free hS hA)) rfl rfl hl.1 rfl (lv_room (Nat.le_of_ble_eq_true rfl)) dX2_fillField_73 ⟨Nat.le_of_ble_eq_true rfl, Nat.le_of_ble_eq_true rfl⟩) hS (fun q _ h => (ro_free hS hA) q h) (ro_free hS hA) (fun r_8 u t H1 locs ht hvm hw hB hz1 hk1 hS => ?_)
        have hP := ro_keep hP hk1
        generalize H1 = H at hP hS ⊢
        rcases hw with ⟨rfl, hp_9⟩ | ⟨rfl, hp_9⟩
        · refine lv_if_eq (tgt := 97) hx hb dX2_fillField_76 (by decide) (fun c9 => absurd c9 (by decide)) (fun _ => ?_)
          refine lv_iload_n hx hb dX2_fillField_79 rfl (lv_at hl 2 rfl) ?_
          refine va_calli (va_runS (As := [.int f0]) (rest := []) ⟨hx, hb, hml, hown, hts⟩ (c_X2_isFinal l dC dI TT H.size f0) (va_cwS 1 hts gX2_fillField_X2_isFinal rfl rfl rfl (by decide +kernel) ⟨Nat.le_of_ble_eq_true rfl, Nat.le_of_ble_eq_true rfl⟩) (pr_S (ws := []) (wA := []) (tys := []) vp_nil (hK.sub [] rfl) vd_nil hst hS (ro_free hS hA)) rfl rfl hl.1 rfl (lv_room (Nat.le_of_ble_eq_true rfl)) dX2_fillField_80 ⟨Nat.le_of_ble_eq_true rfl, Nat.le_of_ble_eq_true rfl⟩) hS (fun q _ h => (ro_free hS hA) q h) (ro_free hS hA) (fun r_10 u t H1 locs ht hvm hw hB hz1 hk1 hS => ?_)
          have hP := ro_keep hP hk1
          generalize H1 = H at hP hS ⊢
          rcases hw with ⟨rfl, hp_11⟩ | ⟨rfl, hp_11⟩
          · refine lv_if_ne (tgt := 97) hx hb dX2_fillField_83 (by decide) (fun _ => ?_) (fun c9 => absurd c9 (by decide))
            refine lv_iconst (v := 0) hx hb dX2_fillField_97 (by decide) ?_
            refine W.widen (k := 1) (n := 20) (by omega) (by omega) ?_
            exact W.iret (v := 0) hx hb hr (fun t ht hW => ⟨⟨0, (), rfl, trivial, K, L, f, hPI, EXT.rf, by rw [ht]; exact hP, hD⟩, hS.F ht⟩) hS.2.2 dX2_fillField_98
          · refine lv_if_ne (tgt := 97) hx hb dX2_fillField_83 (by decide) (fun c9 => absurd c9 (by decide)) (fun _ => ?_)
            refine lv_aload_n hx hb dX2_fillField_86 rfl (lv_at hl 1 rfl) ?_
            obtain ⟨cn_12, v_12, b_12, m_12, st_12, i_12, e_12, fv_12, fb_12, fm_12, fst_12, fi_12⟩ := hPI.a1 hx0
            obtain ⟨k_12, hk_12⟩ := va_plg hx0.1 e_12
            refine va_get (D := (dC, dI)) (ci := 1) (v := .ref v_12) (C := RX1) (T := TX1) (N := 6) hx hb hts iX1_ hown hK hP k_12 hk_12 rfl 1 (by decide) (hts (.fieldLink RX2 65 "FieldLeaves$Thing" "values" "[J") (by decide +kernel)) (fun _ h9 => h9) rfl dX2_fillField_87 ?_
            refine lv_iload_n hx hb dX2_fillField_90 rfl (lv_at hl 2 rfl) ?_
            refine lv_iload_n hx hb dX2_fillField_91 rfl (lv_at hl 2 rfl) ?_
            refine lv_lload_n hx hb dX2_fillField_92 rfl (lv_at hl 3 rfl) ?_
            refine va_calll (va_runS (As := [.int f0, .long v0]) (rest := [.int f0, .ref v_12]) ⟨hx, hb, hml, hown, hts⟩ (t_X2_asTold l dC dI TT H.size kT kI kJ K L f hPI f0 v0 (by constructor <;> omega)) (va_cwS 2 hts gX2_fillField_X2_asTold rfl rfl rfl (by decide +kernel) ⟨Nat.le_of_ble_eq_true rfl, Nat.le_of_ble_eq_true rfl⟩) (pr_S (ws := va_pl L f) (wA := []) (tys := [(kT, .object RX1), (kI, .int), (kJ, .long)]) hP hK vd_nil hst hS (ro_free hS hA)) rfl rfl hl.1 rfl (lv_room (Nat.le_of_ble_eq_true rfl)) dX2_fillField_93 ⟨Nat.le_of_ble_eq_true rfl, Nat.le_of_ble_eq_true rfl⟩) hS (fun q _ h => (ro_free hS hA) q h) (ro_free hS hA) (fun r_13 u t H1 locs ht hvm hw hB hz1 hk1 hS => ?_)
            have hP := ro_keep hP hk1
            generalize H1 = H at hP hS ⊢
            obtain ⟨g_14, e_14⟩ := hPI.a3 fv_12
            obtain ⟨k_14, hk_14⟩ := va_plg fv_12.1 e_14
            have h_14 : vp_in f0 17 := (vp_in_iff.mpr (by constructor <;> omega))
            have hD9 := hD
            refine va_last hx hb hK hP hD hS k_14 2 hk_14 rfl h_14 dX2_fillField_96 (fun H locs hP hD hS => ?_)
            have hP : va_P (dC, dI) vwCl (va_pl L (va_up f v_12 (.inl (kJ, 17, .inr (.inl (vp_updL g_14 (Int32.toNatClampNeg f0) r_13)))))) H := by rw [← va_pls hD9 fv_12.1 hk_14 _]; exact hP
            have hD : va_D A (va_pl L (va_up f v_12 (.inl (kJ, 17, .inr (.inl (vp_updL g_14 (Int32.toNatClampNeg f0) r_13)))))) := by rw [← va_pls hD9 fv_12.1 hk_14 _]; exact hD
            have hPI := hPI.put (e := .inl (kJ, 17, .inr (.inl (vp_updL g_14 (Int32.toNatClampNeg f0) r_13)))) fv_12 ⟨_, rfl⟩
            have es_f_15 : va_up f v_12 (.inl (kJ, 17, .inr (.inl (vp_updL g_14 (Int32.toNatClampNeg f0) r_13)))) v_12 = .inl (kJ, 17, .inr (.inl (vp_updL g_14 (Int32.toNatClampNeg f0) r_13))) := va_up_self _ _ _
            have eq_16 := (va_up_ne f (.inl (kJ, 17, .inr (.inl (vp_updL g_14 (Int32.toNatClampNeg f0) r_13)))) (isr_ne hx0 fv_12 (by decide))).trans e_12
            generalize va_up f v_12 (.inl (kJ, 17, .inr (.inl (vp_updL g_14 (Int32.toNatClampNeg f0) r_13)))) = f_15 at hP hD hPI es_f_15 eq_16
            refine lv_iconst (v := 0) hx hb dX2_fillField_97 (by decide) ?_
            refine W.widen (k := 1) (n := 20) (by omega) (by omega) ?_
            exact W.iret (v := 0) hx hb hr (fun t ht hW => ⟨⟨0, (), rfl, trivial, K, L, f_15, hPI, EXT.rf, by rw [ht]; exact hP, hD⟩, hS.F ht⟩) hS.2.2 dX2_fillField_98
        · refine lv_if_eq (tgt := 97) hx hb dX2_fillField_76 (by decide) (fun _ => ?_) (fun c9 => absurd c9 (by decide))
          refine lv_iconst (v := 0) hx hb dX2_fillField_97 (by decide) ?_
          refine W.widen (k := 1) (n := 20) (by omega) (by omega) ?_
          exact W.iret (v := 0) hx hb hr (fun t ht hW => ⟨⟨0, (), rfl, trivial, K, L, f, hPI, EXT.rf, by rw [ht]; exact hP, hD⟩, hS.F ht⟩) hS.2.2 dX2_fillField_98
      · have c_7 := mt Int32.lt_iff_toInt_lt.mpr c_7
        refine lv_aload_n hx hb dX2_fillField_56 rfl (lv_at hl 1 rfl) ?_
        obtain ⟨cn_17, v_17, b_17, m_17, st_17, i_17, e_17, fv_17, fb_17, fm_17, fst_17, fi_17⟩ := hPI.a1 hx0
        obtain ⟨k_17, hk_17⟩ := va_plg hx0.1 e_17
        refine va_get (D := (dC, dI)) (ci := 1) (v := va_rf i_17) (C := RX1) (T := TX1) (N := 6) hx hb hts iX1_ hown hK hP k_17 hk_17 rfl 5 (by decide) (hts (.fieldLink RX2 91 "FieldLeaves$Thing" "ints" "[I") (by decide +kernel)) (fun _ h9 => h9) rfl dX2_fillField_57 ?_
        rcases i_17 with _ | y_18
        · refine W.eq (g2 := F0 m 60 ls [.null]) rfl ?_
          refine lv_iload_n hx hb dX2_fillField_60 rfl (lv_at hl 2 rfl) ?_
          refine lv_bipush (v := 100) hx hb dX2_fillField_61 (by decide) ?_
          refine lv_isub hx hb dX2_fillField_63 ?_
          refine lv_topi (fun z_19 ez_19 => ?_)
          have kz_19 := sub_toInt ez_19 (by omega) (by omega)
          refine lv_lload_n hx hb dX2_fillField_64 rfl (lv_at hl 3 rfl) ?_
          refine lv_l2i hx hb dX2_fillField_65 rfl ?_
          refine lv_topi (fun z_20 ez_20 => ?_)
          refine va_callv (va_runS (As := [.null, .int z_19, .int z_20]) (rest := []) ⟨hx, hb, hml, hown, hts⟩ (t_X2_fillPlace_null l dC dI TT H.size kT kI kJ K L f hPI z_19 z_20) (va_cwS 3 hts gX2_fillField_X2_fillPlace rfl rfl rfl (by decide +kernel) ⟨Nat.le_of_ble_eq_true rfl, Nat.le_of_ble_eq_true rfl⟩) (pr_S (ws := va_pl L f) (wA := []) (tys := [(kT, .object RX1), (kI, .int), (kJ, .long)]) hP hK vd_nil hst hS (ro_free hS hA)) rfl rfl hl.1 rfl (lv_room (Nat.le_of_ble_eq_true rfl)) dX2_fillField_66 ⟨Nat.le_of_ble_eq_true rfl, Nat.le_of_ble_eq_true rfl⟩) hS (fun q _ h => (ro_free hS hA) q h) (ro_free hS hA) (fun u t H1 locs ht hvm hw hB hz1 hk1 hS => ?_)
          have hP := ro_keep hP hk1
          generalize H1 = H at hP hS ⊢
          refine lv_goto (tgt := 97) hx hb dX2_fillField_69 (by decide) ?_
          refine lv_iconst (v := 0) hx hb dX2_fillField_97 (by decide) ?_
          refine W.widen (k := 1) (n := 20) (by omega) (by omega) ?_
          exact W.iret (v := 0) hx hb hr (fun t ht hW => ⟨⟨0, (), rfl, trivial, K, L, f, hPI, EXT.rf, by rw [ht]; exact hP, hD⟩, hS.F ht⟩) hS.2.2 dX2_fillField_98
        · have fy_18 := fi_17 y_18 rfl
          refine W.eq (g2 := F0 m 60 ls [.ref y_18]) rfl ?_
          refine lv_iload_n hx hb dX2_fillField_60 rfl (lv_at hl 2 rfl) ?_
          refine lv_bipush (v := 100) hx hb dX2_fillField_61 (by decide) ?_
          refine lv_isub hx hb dX2_fillField_63 ?_
          refine lv_topi (fun z_22 ez_22 => ?_)
          have kz_22 := sub_toInt ez_22 (by omega) (by omega)
          refine lv_lload_n hx hb dX2_fillField_64 rfl (lv_at hl 3 rfl) ?_
          refine lv_l2i hx hb dX2_fillField_65 rfl ?_
          refine lv_topi (fun z_23 ez_23 => ?_)
          have hFc := pl_free hD hS hA
          refine va_callv (va_runS (As := [.ref y_18, .int z_22, .int z_23]) (rest := []) ⟨hx, hb, hml, hown, hts⟩ (t_X2_fillPlace l dC dI TT H.size kT kI kJ K L f hPI y_18 fy_18 z_22 z_23 (by omega)) (va_cwS 3 hts gX2_fillField_X2_fillPlace rfl rfl rfl (by decide +kernel) ⟨Nat.le_of_ble_eq_true rfl, Nat.le_of_ble_eq_true rfl⟩) (pr_S (ws := va_pl L f) (wA := va_pl L f) (tys := [(kT, .object RX1), (kI, .int), (kJ, .long)]) hP hK (hD.weaken (fun _ _ _ _ => trivial)) hst hS hFc) rfl rfl hl.1 rfl (lv_room (Nat.le_of_ble_eq_true rfl)) dX2_fillField_66 ⟨Nat.le_of_ble_eq_true rfl, Nat.le_of_ble_eq_true rfl⟩) hS (fun q _ h => hFc q h) hFc (fun u t H1 locs ht hvm hw hB hz1 hk1 hS => ?_)
          obtain ⟨f_25, hPI, hP, hD9⟩ := hB
          rw [ht] at hP
          have hD := hD9.weaken (fun _ q _ h => hFc q.1 h)
          generalize H1 = H at hP hS ⊢
          refine lv_goto (tgt := 97) hx hb dX2_fillField_69 (by decide) ?_
          refine lv_iconst (v := 0) hx hb dX2_fillField_97 (by decide) ?_
          refine W.widen (k := 1) (n := 20) (by omega) (by omega) ?_
          exact W.iret (v := 0) hx hb hr (fun t ht hW => ⟨⟨0, (), rfl, trivial, K, L, f_25, hPI, EXT.rf, by rw [ht]; exact hP, hD⟩, hS.F ht⟩) hS.2.2 dX2_fillField_98
    · have c_6 := congrArg Int32.toInt c_6
      refine lv_aload_n hx hb dX2_fillField_21 rfl (lv_at hl 1 rfl) ?_
      refine lv_lload_n hx hb dX2_fillField_22 rfl (lv_at hl 3 rfl) ?_
      refine lv_lconst (v := 0) hx hb dX2_fillField_23 (by decide) ?_
      refine W.lcmp hx hb dX2_fillField_24 ?_
      refine lv_if_lt (tgt := 43) hx hb dX2_fillField_25 (by decide) (fun c_26 => ?_) (fun c_26 => ?_)
      · have c_26 := Int64.lt_iff_toInt_lt.mp ((lg_cmp_lt v0 0).mp c_26)
        refine lv_null hx hb dX2_fillField_43 ?_
        obtain ⟨cn_27, v_27, b_27, m_27, st_27, i_27, e_27, fv_27, fb_27, fm_27, fst_27, fi_27⟩ := hPI.a1 hx0
        obtain ⟨k_27, hk_27⟩ := va_plg hx0.1 e_27
        have hD9 := hD
        refine va_put (D := (dC, dI)) (ci := 1) (v := .null) (ty := .array .int) (C := RX1) (T := TX1) (N := 6) hx hb hts iX1_ tyX1 tyX1_ok nmX1 hown hK hP hD hS k_27 hk_27 rfl 5 (by decide) (hts (.fieldLink RX2 91 "FieldLeaves$Thing" "ints" "[I") (by decide +kernel)) (fun _ h9 => h9) rfl (by decide +kernel) rfl rfl (Nat.le_of_ble_eq_true rfl) dX2_fillField_44 (fun H locs hP hD hS => ?_)
        have op_28 : opr K L 4 none := fun _ h9 => by cases h9
        have hP : va_P (dC, dI) vwCl (va_pl L (va_up f x0 (.inr (1, [.int cn_27, .ref v_27, va_rf b_27, va_rf m_27, va_rf st_27, va_rf none])))) H := by rw [← va_pls hD9 hx0.1 hk_27 _]; exact hP
        have hD : va_D A (va_pl L (va_up f x0 (.inr (1, [.int cn_27, .ref v_27, va_rf b_27, va_rf m_27, va_rf st_27, va_rf none])))) := by rw [← va_pls hD9 hx0.1 hk_27 _]; exact hD
        have hPI := hPI.put (e := .inr (1, [.int cn_27, .ref v_27, va_rf b_27, va_rf m_27, va_rf st_27, va_rf none])) hx0 ⟨cn_27, v_27, b_27, m_27, st_27, none, rfl, fv_27, fb_27, fm_27, fst_27, op_28⟩
        have es_f_29 : va_up f x0 (.inr (1, [.int cn_27, .ref v_27, va_rf b_27, va_rf m_27, va_rf st_27, va_rf none])) x0 = .inr (1, [.int cn_27, .ref v_27, va_rf b_27, va_rf m_27, va_rf st_27, va_rf none]) := va_up_self _ _ _
        generalize va_up f x0 (.inr (1, [.int cn_27, .ref v_27, va_rf b_27, va_rf m_27, va_rf st_27, va_rf none])) = f_29 at hP hD hPI es_f_29 
        refine lv_goto (tgt := 97) hx hb dX2_fillField_47 (by decide) ?_
        refine lv_iconst (v := 0) hx hb dX2_fillField_97 (by decide) ?_
        refine W.widen (k := 1) (n := 20) (by omega) (by omega) ?_
        exact W.iret (v := 0) hx hb hr (fun t ht hW => ⟨⟨0, (), rfl, trivial, K, L, f_29, hPI, EXT.rf, by rw [ht]; exact hP, hD⟩, hS.F ht⟩) hS.2.2 dX2_fillField_98
      · have c_26 := mt (fun h9 => (lg_cmp_lt v0 0).mpr (Int64.lt_iff_toInt_lt.mpr h9)) c_26
        refine lv_lload_n hx hb dX2_fillField_28 rfl (lv_at hl 3 rfl) ?_
        refine lv_ldc2 hx hb hown (hts (.constantLong RX2 233 (20)) (by decide +kernel)) dX2_fillField_29 ?_
        refine W.lcmp hx hb dX2_fillField_32 ?_
        refine lv_if_gt (tgt := 43) hx hb dX2_fillField_33 (by decide) (fun c_30 => ?_) (fun c_30 => ?_)
        · have c_30 := Int64.lt_iff_toInt_lt.mp ((lg_cmp_gt v0 20).mp c_30)
          refine lv_null hx hb dX2_fillField_43 ?_
          obtain ⟨cn_31, v_31, b_31, m_31, st_31, i_31, e_31, fv_31, fb_31, fm_31, fst_31, fi_31⟩ := hPI.a1 hx0
          obtain ⟨k_31, hk_31⟩ := va_plg hx0.1 e_31
          have hD9 := hD
          refine va_put (D := (dC, dI)) (ci := 1) (v := .null) (ty := .array .int) (C := RX1) (T := TX1) (N := 6) hx hb hts iX1_ tyX1 tyX1_ok nmX1 hown hK hP hD hS k_31 hk_31 rfl 5 (by decide) (hts (.fieldLink RX2 91 "FieldLeaves$Thing" "ints" "[I") (by decide +kernel)) (fun _ h9 => h9) rfl (by decide +kernel) rfl rfl (Nat.le_of_ble_eq_true rfl) dX2_fillField_44 (fun H locs hP hD hS => ?_)
          have op_32 : opr K L 4 none := fun _ h9 => by cases h9
          have hP : va_P (dC, dI) vwCl (va_pl L (va_up f x0 (.inr (1, [.int cn_31, .ref v_31, va_rf b_31, va_rf m_31, va_rf st_31, va_rf none])))) H := by rw [← va_pls hD9 hx0.1 hk_31 _]; exact hP
          have hD : va_D A (va_pl L (va_up f x0 (.inr (1, [.int cn_31, .ref v_31, va_rf b_31, va_rf m_31, va_rf st_31, va_rf none])))) := by rw [← va_pls hD9 hx0.1 hk_31 _]; exact hD
          have hPI := hPI.put (e := .inr (1, [.int cn_31, .ref v_31, va_rf b_31, va_rf m_31, va_rf st_31, va_rf none])) hx0 ⟨cn_31, v_31, b_31, m_31, st_31, none, rfl, fv_31, fb_31, fm_31, fst_31, op_32⟩
          have es_f_33 : va_up f x0 (.inr (1, [.int cn_31, .ref v_31, va_rf b_31, va_rf m_31, va_rf st_31, va_rf none])) x0 = .inr (1, [.int cn_31, .ref v_31, va_rf b_31, va_rf m_31, va_rf st_31, va_rf none]) := va_up_self _ _ _
          generalize va_up f x0 (.inr (1, [.int cn_31, .ref v_31, va_rf b_31, va_rf m_31, va_rf st_31, va_rf none])) = f_33 at hP hD hPI es_f_33 
          refine lv_goto (tgt := 97) hx hb dX2_fillField_47 (by decide) ?_
          refine lv_iconst (v := 0) hx hb dX2_fillField_97 (by decide) ?_
          refine W.widen (k := 1) (n := 20) (by omega) (by omega) ?_
          exact W.iret (v := 0) hx hb hr (fun t ht hW => ⟨⟨0, (), rfl, trivial, K, L, f_33, hPI, EXT.rf, by rw [ht]; exact hP, hD⟩, hS.F ht⟩) hS.2.2 dX2_fillField_98
        · have c_30 := mt (fun h9 => (lg_cmp_gt v0 20).mpr (Int64.lt_iff_toInt_lt.mpr h9)) c_30
          refine lv_lload_n hx hb dX2_fillField_36 rfl (lv_at hl 3 rfl) ?_
          refine lv_l2i hx hb dX2_fillField_37 rfl ?_
          refine lv_topi (fun z_34 ez_34 => ?_)
          have kz_34 := l2i_small ez_34 (by omega) (by omega)
          have hn_36 : ¬ z_34 < 0 := mt Int32.lt_iff_toInt_lt.mp (by omega)
          obtain ⟨j_36, hj_36, ej_36⟩ := nI_of2 (M := 20) (n := 20) (by decide) hn_36 (Int32.le_iff_toInt_le.mpr (by omega))
          refine va_newa (a0 := (j_36, .inl (fun _ => 0))) (N' := j_36) (atype := .int) (ty := .int) hx hb (hts (.arrayClass .int) (by decide +kernel)) rfl hK hP hD hS hA (newI j_36) hn_36 (by rw [ej_36]; exact nI_clamp (by omega)) (by show j_36 * 4 ≤ 536870912; omega) (Nat.le_of_ble_eq_true rfl) (Nat.le_trans (show 0 + j_36 ≤ 0 + 20 by omega) (Nat.le_of_ble_eq_true rfl)) dX2_fillField_38 (fun q_35 cA_36 H hK9 hP hD hS => ?_)
          obtain rfl : kI = cA_36 := ty_one hK9 1 3 rfl rfl (Or.inl rfl)
          refine W.widen (k := 1) (n := 20) (by omega) (by omega) ?_
          obtain ⟨K_38, L_39, f_37, hPI, hE, fq_40, hsm, hP, hD⟩ := fold1 hPI hj_36 hP hD
          have fe_41 := hx0.ext hE
          have fe_42 := hh0.ext hE
          have fe_43 := hx0.ext hE
          have hE0 := hE
          refine lv_goto (tgt := 44) hx hb dX2_fillField_40 (by decide) ?_
          obtain ⟨cn_44, v_44, b_44, m_44, st_44, i_44, e_44, fv_44, fb_44, fm_44, fst_44, fi_44⟩ := hPI.a1 fe_41
          obtain ⟨k_44, hk_44⟩ := va_plg fe_41.1 e_44
          have hD9 := hD
          refine va_put (D := (dC, dI)) (ci := 1) (v := .ref q_35) (ty := .array .int) (C := RX1) (T := TX1) (N := 6) hx hb hts iX1_ tyX1 tyX1_ok nmX1 hown hK hP hD hS k_44 hk_44 rfl 5 (by decide) (hts (.fieldLink RX2 91 "FieldLeaves$Thing" "ints" "[I") (by decide +kernel)) (fun _ h9 => h9) rfl (by decide +kernel) rfl rfl (Nat.le_of_ble_eq_true rfl) dX2_fillField_44 (fun H locs hP hD hS => ?_)
          have op_45 : opr K_38 L_39 4 (some q_35) := fun _ h9 => by cases h9; exact fq_40
          have hP : va_P (dC, dI) vwCl (va_pl L_39 (va_up f_37 x0 (.inr (1, [.int cn_44, .ref v_44, va_rf b_44, va_rf m_44, va_rf st_44, va_rf (some q_35)])))) H := by rw [← va_pls hD9 fe_41.1 hk_44 _]; exact hP
          have hD : va_D A (va_pl L_39 (va_up f_37 x0 (.inr (1, [.int cn_44, .ref v_44, va_rf b_44, va_rf m_44, va_rf st_44, va_rf (some q_35)])))) := by rw [← va_pls hD9 fe_41.1 hk_44 _]; exact hD
          have hPI := hPI.put (e := .inr (1, [.int cn_44, .ref v_44, va_rf b_44, va_rf m_44, va_rf st_44, va_rf (some q_35)])) fe_41 ⟨cn_44, v_44, b_44, m_44, st_44, (some q_35), rfl, fv_44, fb_44, fm_44, fst_44, op_45⟩
          have es_f_46 : va_up f_37 x0 (.inr (1, [.int cn_44, .ref v_44, va_rf b_44, va_rf m_44, va_rf st_44, va_rf (some q_35)])) x0 = .inr (1, [.int cn_44, .ref v_44, va_rf b_44, va_rf m_44, va_rf st_44, va_rf (some q_35)]) := va_up_self _ _ _
          generalize va_up f_37 x0 (.inr (1, [.int cn_44, .ref v_44, va_rf b_44, va_rf m_44, va_rf st_44, va_rf (some q_35)])) = f_46 at hP hD hPI es_f_46 
          refine lv_goto (tgt := 97) hx hb dX2_fillField_47 (by decide) ?_
          refine lv_iconst (v := 0) hx hb dX2_fillField_97 (by decide) ?_
          refine W.widen (k := 1) (n := 20) (by omega) (by omega) ?_
          exact W.iret (v := 0) hx hb hr (fun t ht hW => ⟨⟨0, (), rfl, trivial, K_38, L_39, f_46, hPI, hE0, by rw [ht]; exact hP, hD⟩, hS.F ht⟩) hS.2.2 dX2_fillField_98
