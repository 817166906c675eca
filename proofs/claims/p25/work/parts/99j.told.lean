set_option maxRecDepth 20000 in
theorem in_u_X0_toldToMaker_X0 : ∀ w ∈ u_ws RX0 TX0 4, w ∈ wsX0_toldToMaker := by decide +kernel
set_option maxRecDepth 100000 in
set_option maxHeartbeats 4000000 in
theorem u_X0_toldToMaker (l : Launch) (dC : Nat → ClassId) (dI : Nat → Nat → Nat) (TT : Nat × Nat × Nat) (sz : Nat) (kT kI kJ : ClassId) (K : Nat → Nat) (L : List Nat) (f : Nat → va_E) (hPI : PI kT kI kJ K L f) (x0 : Nat) (hx0 : isr K L 0 x0) (k0 : Int32) (ll : List (Int32 × Int32 × Int64)) (hLS : LSt f x0 ll) (hk0 : 0 ≤ k0.toInt ∧ k0.toInt < 300) : Met l yX0_toldToMaker wsX0_toldToMaker ({ frames := 2, cells := 0, slots := 0, locals := 43 } : Room) (va_Pc [.ref x0, .int k0] (pr dC dI (va_pl L f) [] [(kT, .object RX1), (kI, .int), (kJ, .long)] sz TT)) (va_Qi (fun (r : Int32) (u : Unit) => r = tm (ll.drop (Int32.toNatClampNeg k0 + 1))) (fun _ _ => True) (va_A [] sz)) 0 0 (va_A [] sz) := by
  refine Met.ofW (cc := cX0_toldToMaker) (maxL := 3) (ret := (some .int)) (by decide) rfl ?_
  intro p e s m args below meth c s₁ B hml hv
  obtain ⟨rfl, hsz, hP, hK, hD0, hst⟩ := hv
  have hx := B.exec
  have hb := B.bytes
  have hr := B.returns
  have hts := atoms_spec (ws := wsX0_toldToMaker) B.pre
  have hown : s.vm.findClass RX0 = some m.cls := findClass_of_methodNamed B.named
  have hlocks := B.notSynchronized
  have iX0_ := in_u_X0_toldToMaker_X0
  subst hsz
  have hD := hD0.self (sz := s.heap.size)
  generalize hAe : va_A [] s.heap.size = A at hD hst ⊢
  have hA : ∀ q : Nat, s.heap.size ≤ q → A q := fun q h => by rw [← hAe]; exact Or.inr h
  have hS : va_S A s.heap s.heap [] := va_S.rf
  have hl := lv_entry ([.ref x0, .int k0]) (n := 3) (Nat.le_of_ble_eq_true rfl)
  rw [lg_entry_eq]
  generalize (lg_sl ([.ref x0, .int k0]) ++ List.replicate (3 - (lg_sl ([.ref x0, .int k0])).length) Slot.unset).toArray = ls at hl ⊢
  have hl : lv_has ls 3 [(0, .ref x0), (1, .int k0)] := hl
  have km1_ : Int32.toInt (-1) = -1 := by decide
  have k0_ : Int32.toInt 0 = 0 := by decide
  refine W_nameQ (fun Q0 eQ => ?_)
  obtain ⟨n_1, d_1, v_1, z_1, e_1, fn_1, fd_1, fv_1, fz_1⟩ := hPI.a0 hx0
  obtain ⟨k_1, hk_1⟩ := va_plg hx0.1 e_1
  obtain ⟨g_2, e_2⟩ := hPI.a7 fn_1
  obtain ⟨k_2, hk_2⟩ := va_plg fn_1.1 e_2
  obtain ⟨g_3, e_3⟩ := hPI.a7 fd_1
  obtain ⟨k_3, hk_3⟩ := va_plg fd_1.1 e_3
  obtain ⟨g_4, e_4⟩ := hPI.a8 fv_1
  obtain ⟨k_4, hk_4⟩ := va_plg fv_1.1 e_4
  have hL := hLS
  unfold LSt at hL
  rw [li_z e_1, li_n e_1 e_2, li_d e_1 e_3, li_v e_1 e_4] at hL
  refine lv_iload_n hx hb dX0_toldToMaker_0 rfl (lv_at hl 1 rfl) ?_
  refine lv_iconst (v := 1) hx hb dX0_toldToMaker_1 (by decide) ?_
  refine lv_iadd hx hb dX0_toldToMaker_2 ?_
  refine lv_topi (fun z_5 ez_5 => ?_)
  have kz_5 := inc_toInt ez_5 (by omega)
  refine lv_istore_n (lv' := [(2, .int z_5), (0, .ref x0), (1, .int k0)]) hx hb dX0_toldToMaker_3 rfl hl (by decide) rfl (fun ls hl => ?_)
  have loop_4 : ∀ (n : Nat) (i2 : Int32)   (H : Heap) (locs : List Loc) (ls : Array Slot), ((0 ≤ i2.toInt ∧ i2.toInt ≤ 300) ∧ tm (ll.drop (Int32.toNatClampNeg i2)) = tm (ll.drop (Int32.toNatClampNeg k0 + 1))) → (300 - i2.toInt).toNat < n → va_P (dC, dI) vwCl (va_pl L f) H → va_S A s.heap H locs → lv_has ls 3 [(2, .int i2), (0, .ref x0), (1, .int k0)] → W p l e (headSpec wsX0_toldToMaker ({ frames := 2, cells := 0, slots := 0, locals := 43 } : Room)).room s m (([.ref x0, .int k0] : List Value).toArray) below meth c H locs 0 0 Q0 (F0 m 4 ls []) := by
    intro n
    induction n with
    | zero => intro i2 H locs ls  _ h9; exact absurd h9 (Nat.not_lt_zero _)
    | succ n ih_4 =>
      intro i2 H locs ls  hI hM hP hS hl
      refine lv_iload_n hx hb dX0_toldToMaker_4 rfl (lv_at hl 0 rfl) ?_
      refine lv_aload_n hx hb dX0_toldToMaker_5 rfl (lv_at hl 1 rfl) ?_
      obtain ⟨k_6, hk_6⟩ := va_plg hx0.1 e_1
      refine va_get (D := (dC, dI)) (ci := 0) (v := .int z_1) (C := RX0) (T := TX0) (N := 4) hx hb hts iX0_ hown hK hP k_6 hk_6 rfl 3 (by decide) (hts (.fieldLink RX0 22 "FieldLeaves$LeafList" "size" "I") (by decide +kernel)) (fun _ h9 => h9) rfl dX0_toldToMaker_6 ?_
      refine lv_icmp_ge (tgt := 57) hx hb dX0_toldToMaker_9 (by decide) (fun c_7 => ?_) (fun c_7 => ?_)
      · have c_7 := Int32.le_iff_toInt_le.mp c_7
        refine lv_iconst (v := 0) hx hb dX0_toldToMaker_57 (by decide) ?_
        subst eQ
        exact W.iret (v := 0) hx hb hr (fun t ht hW => ⟨⟨0, (), rfl, (by rw [← hI.2]; exact (tm_end hL (by omega) (by omega)).symm), trivial⟩, hS.F ht⟩) hS.2.2 dX0_toldToMaker_58
      · have c_7 := mt Int32.le_iff_toInt_le.mpr c_7
        refine lv_aload_n hx hb dX0_toldToMaker_12 rfl (lv_at hl 1 rfl) ?_
        obtain ⟨k_8, hk_8⟩ := va_plg hx0.1 e_1
        refine va_get (D := (dC, dI)) (ci := 0) (v := .ref d_1) (C := RX0) (T := TX0) (N := 4) hx hb hts iX0_ hown hK hP k_8 hk_8 rfl 1 (by decide) (hts (.fieldLink RX0 15 "FieldLeaves$LeafList" "fields" "[I") (by decide +kernel)) (fun _ h9 => h9) rfl dX0_toldToMaker_13 ?_
        refine lv_iload_n hx hb dX0_toldToMaker_16 rfl (lv_at hl 0 rfl) ?_
        obtain ⟨k_9, hk_9⟩ := va_plg fd_1.1 e_3
        have h_9 : vp_in i2 300 := (vp_in_iff.mpr (by constructor <;> omega))
        refine va_iald hx hb hK hP k_9 1 hk_9 rfl h_9 dX0_toldToMaker_17 ?_
        refine lv_topi (fun z_9 ez_9 => ?_)
        refine lv_iconst (v := (-1)) hx hb dX0_toldToMaker_18 (by decide) ?_
        refine lv_icmp_eq (tgt := 57) hx hb dX0_toldToMaker_19 (by decide) (fun c_10 => ?_) (fun c_10 => ?_)
        · have c_10 := congrArg Int32.toInt c_10
          refine lv_iconst (v := 0) hx hb dX0_toldToMaker_57 (by decide) ?_
          subst eQ
          exact W.iret (v := 0) hx hb hr (fun t ht hW => ⟨⟨0, (), rfl, (by rw [← hI.2]; exact (tm_stop hL (by omega) (by omega) (by rw [← ez_9]; omega)).symm), trivial⟩, hS.F ht⟩) hS.2.2 dX0_toldToMaker_58
        · have c_10 := mt Int32.toInt_inj.mp c_10
          refine lv_aload_n hx hb dX0_toldToMaker_22 rfl (lv_at hl 1 rfl) ?_
          obtain ⟨k_11, hk_11⟩ := va_plg hx0.1 e_1
          refine va_get (D := (dC, dI)) (ci := 0) (v := .ref d_1) (C := RX0) (T := TX0) (N := 4) hx hb hts iX0_ hown hK hP k_11 hk_11 rfl 1 (by decide) (hts (.fieldLink RX0 15 "FieldLeaves$LeafList" "fields" "[I") (by decide +kernel)) (fun _ h9 => h9) rfl dX0_toldToMaker_23 ?_
          refine lv_iload_n hx hb dX0_toldToMaker_26 rfl (lv_at hl 0 rfl) ?_
          obtain ⟨k_12, hk_12⟩ := va_plg fd_1.1 e_3
          have h_12 : vp_in i2 300 := (vp_in_iff.mpr (by constructor <;> omega))
          refine va_iald hx hb hK hP k_12 1 hk_12 rfl h_12 dX0_toldToMaker_27 ?_
          refine lv_topi (fun z_12 ez_12 => ?_)
          obtain rfl : z_9 = z_12 := ez_9.trans ez_12.symm
          refine va_calli (va_runSN (As := [.int z_9]) (rest := []) ⟨hx, hb, hml, hown, hts⟩ (c_X2_isFinal l dC dI TT H.size z_9) ⟨va_cnB 1 hts gX0_toldToMaker_X2_isFinal_n26 rfl rfl rfl hst.n26 (hts (.initialized RX2) (by decide +kernel)) (by decide +kernel) ⟨Nat.le_of_ble_eq_true rfl, Nat.le_of_ble_eq_true rfl⟩, hts (.static yX2_isFinal) (by decide +kernel), trivial⟩ (pr_S (ws := []) (wA := []) (tys := []) vp_nil (hK.sub [] rfl) vd_nil hst hS (ro_free hS hA)) rfl rfl hl.1 rfl (lv_room (Nat.le_of_ble_eq_true rfl)) dX0_toldToMaker_28 ⟨Nat.le_of_ble_eq_true rfl, Nat.le_of_ble_eq_true rfl⟩) hS (fun q _ h => (ro_free hS hA) q h) (ro_free hS hA) (fun r_13 u t H1 locs ht hvm hw hB hz1 hk1 hS => ?_)
          have hP := ro_keep hP hk1
          generalize H1 = H at hP hS ⊢
          rcases hw with ⟨rfl, hp_14⟩ | ⟨rfl, hp_14⟩
          · refine lv_if_eq (tgt := 51) hx hb dX0_toldToMaker_31 (by decide) (fun c9 => absurd c9 (by decide)) (fun _ => ?_)
            refine lv_aload_n hx hb dX0_toldToMaker_34 rfl (lv_at hl 1 rfl) ?_
            obtain ⟨k_15, hk_15⟩ := va_plg hx0.1 e_1
            refine va_get (D := (dC, dI)) (ci := 0) (v := .ref d_1) (C := RX0) (T := TX0) (N := 4) hx hb hts iX0_ hown hK hP k_15 hk_15 rfl 1 (by decide) (hts (.fieldLink RX0 15 "FieldLeaves$LeafList" "fields" "[I") (by decide +kernel)) (fun _ h9 => h9) rfl dX0_toldToMaker_35 ?_
            refine lv_iload_n hx hb dX0_toldToMaker_38 rfl (lv_at hl 0 rfl) ?_
            obtain ⟨k_16, hk_16⟩ := va_plg fd_1.1 e_3
            have h_16 : vp_in i2 300 := (vp_in_iff.mpr (by constructor <;> omega))
            refine va_iald hx hb hK hP k_16 1 hk_16 rfl h_16 dX0_toldToMaker_39 ?_
            refine lv_topi (fun z_16 ez_16 => ?_)
            obtain rfl : z_9 = z_16 := ez_9.trans ez_16.symm
            refine lv_aload_n hx hb dX0_toldToMaker_40 rfl (lv_at hl 1 rfl) ?_
            obtain ⟨k_17, hk_17⟩ := va_plg hx0.1 e_1
            refine va_get (D := (dC, dI)) (ci := 0) (v := .ref v_1) (C := RX0) (T := TX0) (N := 4) hx hb hts iX0_ hown hK hP k_17 hk_17 rfl 2 (by decide) (hts (.fieldLink RX0 18 "FieldLeaves$LeafList" "values" "[J") (by decide +kernel)) (fun _ h9 => h9) rfl dX0_toldToMaker_41 ?_
            refine lv_iload_n hx hb dX0_toldToMaker_44 rfl (lv_at hl 0 rfl) ?_
            obtain ⟨k_18, hk_18⟩ := va_plg fv_1.1 e_4
            have h_18 : vp_in i2 300 := (vp_in_iff.mpr (by constructor <;> omega))
            refine va_lald hx hb hK hP k_18 2 hk_18 rfl h_18 dX0_toldToMaker_45 ?_
            refine lv_topl (fun z_18 ez_18 => ?_)
            refine va_calll (va_runSN (As := [.int z_9, .long z_18]) (rest := []) ⟨hx, hb, hml, hown, hts⟩ (u_X2_asTold l dC dI TT H.size kT kI kJ K L f hPI z_9 z_18 (by constructor <;> omega)) ⟨va_cnB 2 hts gX0_toldToMaker_X2_asTold_n30 rfl rfl rfl hst.n30 (hts (.initialized RX2) (by decide +kernel)) (by decide +kernel) ⟨Nat.le_of_ble_eq_true rfl, Nat.le_of_ble_eq_true rfl⟩, hts (.static yX2_asTold) (by decide +kernel), trivial⟩ (pr_S (ws := va_pl L f) (wA := []) (tys := [(kT, .object RX1), (kI, .int), (kJ, .long)]) hP hK vd_nil hst hS (ro_free hS hA)) rfl rfl hl.1 rfl (lv_room (Nat.le_of_ble_eq_true rfl)) dX0_toldToMaker_46 ⟨Nat.le_of_ble_eq_true rfl, Nat.le_of_ble_eq_true rfl⟩) hS (fun q _ h => (ro_free hS hA) q h) (ro_free hS hA) (fun r_19 u t H1 locs ht hvm hw hB hz1 hk1 hS => ?_)
            have hP := ro_keep hP hk1
            generalize H1 = H at hP hS ⊢
            have hQ_20 := hw
            refine lv_l2i hx hb dX0_toldToMaker_49 rfl ?_
            refine lv_topi (fun z_21 ez_21 => ?_)
            subst eQ
            exact W.iret (v := z_21) hx hb hr (fun t ht hW => ⟨⟨z_21, (), rfl, (by rw [← hI.2, tm_hit hL (by omega) (by omega) (by rw [← ez_9]; omega) (by rw [← ez_9]; omega), ez_21, hQ_20, ez_9, ez_18]), trivial⟩, hS.F ht⟩) hS.2.2 dX0_toldToMaker_50
          · refine lv_if_eq (tgt := 51) hx hb dX0_toldToMaker_31 (by decide) (fun _ => ?_) (fun c9 => absurd c9 (by decide))
            obtain ⟨i_22, ei_22⟩ : ∃ y : Int32, y = i2 + 1 := ⟨_, rfl⟩
            refine lv_iinc (v := i_22) (lv' := [(2, .int i_22), (0, .ref x0), (1, .int k0)]) hx hb dX0_toldToMaker_51 hl (k := 0) rfl (by rw [ei_22]; rfl) (by decide) rfl (fun ls hl => ?_)
            have ki_22 := inc_toInt ei_22 (by omega)
            refine lv_goto (tgt := 4) hx hb dX0_toldToMaker_54 (by decide) ?_
            exact ih_4 i_22 _ _ _  ⟨by omega, (tm_next hL (by omega) (by omega) (by rw [← ez_9]; omega) (by rw [← ez_9]; omega) ki_22).trans hI.2⟩ (by omega) hP hS (lv_sub hl [0, 1, 2] rfl)
  exact loop_4 301 z_5 _ _ _  ⟨by omega, by rw [cl_succ (i := k0) (by omega) kz_5]⟩ (by omega) hP hS hl

