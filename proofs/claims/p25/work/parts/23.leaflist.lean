set_option maxRecDepth 20000 in
theorem in_t_X0_sameAs_X0 : ∀ w ∈ u_ws RX0 TX0 4, w ∈ wsX0_sameAs := by decide +kernel
set_option maxRecDepth 100000 in
set_option maxHeartbeats 4000000 in
theorem t_X0_sameAs (l : Launch) (dC : Nat → ClassId) (dI : Nat → Nat → Nat) (TT : Nat × Nat × Nat) (sz : Nat) (kT kI kJ : ClassId) (K : Nat → Nat) (L : List Nat) (f : Nat → va_E) (hPI : PI kT kI kJ K L f) (x0 : Nat) (hx0 : isr K L 0 x0) (y0 : Nat) (hy0 : isr K L 0 y0) : Met l yX0_sameAs wsX0_sameAs ({ frames := 0, cells := 0, slots := 0, locals := 0 } : Room) (va_Pc [.ref x0, .ref y0] (pr dC dI (va_pl L f) [] [(kT, .object RX1), (kI, .int), (kJ, .long)] sz TT)) (va_Qi (fun (r : Int32) (u : Unit) => r01 r) (fun _ _ => True) (va_A [] sz)) 0 0 (va_A [] sz) := by
  refine Met.ofW (cc := cX0_sameAs) (maxL := 3) (ret := (some .boolean)) (by decide) rfl ?_
  intro p e s m args below meth c s₁ B hml hv
  obtain ⟨rfl, hsz, hP, hK, hD0, hst⟩ := hv
  have hx := B.exec
  have hb := B.bytes
  have hr := B.returns
  have hts := atoms_spec (ws := wsX0_sameAs) B.pre
  have hown : s.vm.findClass RX0 = some m.cls := findClass_of_methodNamed B.named
  have hlocks := B.notSynchronized
  have iX0_ := in_t_X0_sameAs_X0
  subst hsz
  have hD := hD0.self (sz := s.heap.size)
  generalize hAe : va_A [] s.heap.size = A at hD hst ⊢
  have hA : ∀ q : Nat, s.heap.size ≤ q → A q := fun q h => by rw [← hAe]; exact Or.inr h
  have hS : va_S A s.heap s.heap [] := va_S.rf
  have hl := lv_entry ([.ref x0, .ref y0]) (n := 3) (Nat.le_of_ble_eq_true rfl)
  rw [lg_entry_eq]
  generalize (lg_sl ([.ref x0, .ref y0]) ++ List.replicate (3 - (lg_sl ([.ref x0, .ref y0])).length) Slot.unset).toArray = ls at hl ⊢
  have hl : lv_has ls 3 [(0, .ref x0), (1, .ref y0)] := hl
  have k0_ : Int32.toInt 0 = 0 := by decide
  have k1_ : Int32.toInt 1 = 1 := by decide
  refine W_nameQ (fun Q0 eQ => ?_)
  refine lv_aload_n hx hb dX0_sameAs_0 rfl (lv_at hl 0 rfl) ?_
  obtain ⟨n_1, d_1, v_1, z_1, e_1, fn_1, fd_1, fv_1, fz_1⟩ := hPI.a0 hx0
  obtain ⟨k_1, hk_1⟩ := va_plg hx0.1 e_1
  refine va_get (D := (dC, dI)) (ci := 0) (v := .int z_1) (C := RX0) (T := TX0) (N := 4) hx hb hts iX0_ hown hK hP k_1 hk_1 rfl 3 (by decide) (hts (.fieldLink RX0 22 "FieldLeaves$LeafList" "size" "I") (by decide +kernel)) (fun _ h9 => h9) rfl dX0_sameAs_1 ?_
  refine lv_aload_n hx hb dX0_sameAs_4 rfl (lv_at hl 1 rfl) ?_
  obtain ⟨n_2, d_2, v_2, z_2, e_2, fn_2, fd_2, fv_2, fz_2⟩ := hPI.a0 hy0
  obtain ⟨k_2, hk_2⟩ := va_plg hy0.1 e_2
  refine va_get (D := (dC, dI)) (ci := 0) (v := .int z_2) (C := RX0) (T := TX0) (N := 4) hx hb hts iX0_ hown hK hP k_2 hk_2 rfl 3 (by decide) (hts (.fieldLink RX0 22 "FieldLeaves$LeafList" "size" "I") (by decide +kernel)) (fun _ h9 => h9) rfl dX0_sameAs_5 ?_
  refine lv_icmp_eq (tgt := 13) hx hb dX0_sameAs_8 (by decide) (fun c_3 => ?_) (fun c_3 => ?_)
  · have c_3 := congrArg Int32.toInt c_3
    refine lv_iconst (v := 0) hx hb dX0_sameAs_13 (by decide) ?_
    refine lv_istore_n (lv' := [(2, .int 0), (0, .ref x0), (1, .ref y0)]) hx hb dX0_sameAs_14 rfl hl (by decide) rfl (fun ls hl => ?_)
    have loop_15 : ∀ (n : Nat) (i2 : Int32)   (H : Heap) (locs : List Loc) (ls : Array Slot), (0 ≤ i2.toInt ∧ i2.toInt ≤ 300) → (300 - i2.toInt).toNat < n → va_P (dC, dI) vwCl (va_pl L f) H → va_S A s.heap H locs → lv_has ls 3 [(2, .int i2), (0, .ref x0), (1, .ref y0)] → W p l e (headSpec wsX0_sameAs ({ frames := 0, cells := 0, slots := 0, locals := 0 } : Room)).room s m (([.ref x0, .ref y0] : List Value).toArray) below meth c H locs 0 0 Q0 (F0 m 15 ls []) := by
      intro n
      induction n with
      | zero => intro i2 H locs ls  _ h9; exact absurd h9 (Nat.not_lt_zero _)
      | succ n ih_15 =>
        intro i2 H locs ls  hI hM hP hS hl
        refine lv_iload_n hx hb dX0_sameAs_15 rfl (lv_at hl 0 rfl) ?_
        refine lv_aload_n hx hb dX0_sameAs_16 rfl (lv_at hl 1 rfl) ?_
        obtain ⟨k_4, hk_4⟩ := va_plg hx0.1 e_1
        refine va_get (D := (dC, dI)) (ci := 0) (v := .int z_1) (C := RX0) (T := TX0) (N := 4) hx hb hts iX0_ hown hK hP k_4 hk_4 rfl 3 (by decide) (hts (.fieldLink RX0 22 "FieldLeaves$LeafList" "size" "I") (by decide +kernel)) (fun _ h9 => h9) rfl dX0_sameAs_17 ?_
        refine lv_icmp_ge (tgt := 77) hx hb dX0_sameAs_20 (by decide) (fun c_5 => ?_) (fun c_5 => ?_)
        · have c_5 := Int32.le_iff_toInt_le.mp c_5
          refine lv_iconst (v := 1) hx hb dX0_sameAs_77 (by decide) ?_
          subst eQ
          exact W.zret (v := 1) hx hb hr rfl (fun t ht hW => ⟨⟨1, (), rfl, Or.inl rfl, trivial⟩, hS.F ht⟩) hS.2.2 dX0_sameAs_78
        · have c_5 := mt Int32.le_iff_toInt_le.mpr c_5
          refine lv_aload_n hx hb dX0_sameAs_23 rfl (lv_at hl 1 rfl) ?_
          obtain ⟨k_6, hk_6⟩ := va_plg hx0.1 e_1
          refine va_get (D := (dC, dI)) (ci := 0) (v := .ref n_1) (C := RX0) (T := TX0) (N := 4) hx hb hts iX0_ hown hK hP k_6 hk_6 rfl 0 (by decide) (hts (.fieldLink RX0 9 "FieldLeaves$LeafList" "numbers" "[I") (by decide +kernel)) (fun _ h9 => h9) rfl dX0_sameAs_24 ?_
          refine lv_iload_n hx hb dX0_sameAs_27 rfl (lv_at hl 0 rfl) ?_
          obtain ⟨g_7, e_7⟩ := hPI.a7 fn_1
          obtain ⟨k_7, hk_7⟩ := va_plg fn_1.1 e_7
          have h_7 : vp_in i2 300 := (vp_in_iff.mpr (by constructor <;> omega))
          refine va_iald hx hb hK hP k_7 1 hk_7 rfl h_7 dX0_sameAs_28 ?_
          refine lv_topi (fun z_7 ez_7 => ?_)
          refine lv_aload_n hx hb dX0_sameAs_29 rfl (lv_at hl 2 rfl) ?_
          obtain ⟨k_8, hk_8⟩ := va_plg hy0.1 e_2
          refine va_get (D := (dC, dI)) (ci := 0) (v := .ref n_2) (C := RX0) (T := TX0) (N := 4) hx hb hts iX0_ hown hK hP k_8 hk_8 rfl 0 (by decide) (hts (.fieldLink RX0 9 "FieldLeaves$LeafList" "numbers" "[I") (by decide +kernel)) (fun _ h9 => h9) rfl dX0_sameAs_30 ?_
          refine lv_iload_n hx hb dX0_sameAs_33 rfl (lv_at hl 0 rfl) ?_
          obtain ⟨g_9, e_9⟩ := hPI.a7 fn_2
          obtain ⟨k_9, hk_9⟩ := va_plg fn_2.1 e_9
          have h_9 : vp_in i2 300 := (vp_in_iff.mpr (by constructor <;> omega))
          refine va_iald hx hb hK hP k_9 1 hk_9 rfl h_9 dX0_sameAs_34 ?_
          refine lv_topi (fun z_9 ez_9 => ?_)
          refine lv_icmp_ne (tgt := 69) hx hb dX0_sameAs_35 (by decide) (fun c_10 => ?_) (fun c_10 => ?_)
          · have c_10 := mt Int32.toInt_inj.mp c_10
            refine lv_iconst (v := 0) hx hb dX0_sameAs_69 (by decide) ?_
            subst eQ
            exact W.zret (v := 0) hx hb hr rfl (fun t ht hW => ⟨⟨0, (), rfl, Or.inr rfl, trivial⟩, hS.F ht⟩) hS.2.2 dX0_sameAs_70
          · have c_10 := congrArg Int32.toInt c_10
            refine lv_aload_n hx hb dX0_sameAs_38 rfl (lv_at hl 1 rfl) ?_
            obtain ⟨k_11, hk_11⟩ := va_plg hx0.1 e_1
            refine va_get (D := (dC, dI)) (ci := 0) (v := .ref d_1) (C := RX0) (T := TX0) (N := 4) hx hb hts iX0_ hown hK hP k_11 hk_11 rfl 1 (by decide) (hts (.fieldLink RX0 15 "FieldLeaves$LeafList" "fields" "[I") (by decide +kernel)) (fun _ h9 => h9) rfl dX0_sameAs_39 ?_
            refine lv_iload_n hx hb dX0_sameAs_42 rfl (lv_at hl 0 rfl) ?_
            obtain ⟨g_12, e_12⟩ := hPI.a7 fd_1
            obtain ⟨k_12, hk_12⟩ := va_plg fd_1.1 e_12
            have h_12 : vp_in i2 300 := (vp_in_iff.mpr (by constructor <;> omega))
            refine va_iald hx hb hK hP k_12 1 hk_12 rfl h_12 dX0_sameAs_43 ?_
            refine lv_topi (fun z_12 ez_12 => ?_)
            refine lv_aload_n hx hb dX0_sameAs_44 rfl (lv_at hl 2 rfl) ?_
            obtain ⟨k_13, hk_13⟩ := va_plg hy0.1 e_2
            refine va_get (D := (dC, dI)) (ci := 0) (v := .ref d_2) (C := RX0) (T := TX0) (N := 4) hx hb hts iX0_ hown hK hP k_13 hk_13 rfl 1 (by decide) (hts (.fieldLink RX0 15 "FieldLeaves$LeafList" "fields" "[I") (by decide +kernel)) (fun _ h9 => h9) rfl dX0_sameAs_45 ?_
            refine lv_iload_n hx hb dX0_sameAs_48 rfl (lv_at hl 0 rfl) ?_
            obtain ⟨g_14, e_14⟩ := hPI.a7 fd_2
            obtain ⟨k_14, hk_14⟩ := va_plg fd_2.1 e_14
            have h_14 : vp_in i2 300 := (vp_in_iff.mpr (by constructor <;> omega))
            refine va_iald hx hb hK hP k_14 1 hk_14 rfl h_14 dX0_sameAs_49 ?_
            refine lv_topi (fun z_14 ez_14 => ?_)
            refine lv_icmp_ne (tgt := 69) hx hb dX0_sameAs_50 (by decide) (fun c_15 => ?_) (fun c_15 => ?_)
            · have c_15 := mt Int32.toInt_inj.mp c_15
              refine lv_iconst (v := 0) hx hb dX0_sameAs_69 (by decide) ?_
              subst eQ
              exact W.zret (v := 0) hx hb hr rfl (fun t ht hW => ⟨⟨0, (), rfl, Or.inr rfl, trivial⟩, hS.F ht⟩) hS.2.2 dX0_sameAs_70
            · have c_15 := congrArg Int32.toInt c_15
              refine lv_aload_n hx hb dX0_sameAs_53 rfl (lv_at hl 1 rfl) ?_
              obtain ⟨k_16, hk_16⟩ := va_plg hx0.1 e_1
              refine va_get (D := (dC, dI)) (ci := 0) (v := .ref v_1) (C := RX0) (T := TX0) (N := 4) hx hb hts iX0_ hown hK hP k_16 hk_16 rfl 2 (by decide) (hts (.fieldLink RX0 18 "FieldLeaves$LeafList" "values" "[J") (by decide +kernel)) (fun _ h9 => h9) rfl dX0_sameAs_54 ?_
              refine lv_iload_n hx hb dX0_sameAs_57 rfl (lv_at hl 0 rfl) ?_
              obtain ⟨g_17, e_17⟩ := hPI.a8 fv_1
              obtain ⟨k_17, hk_17⟩ := va_plg fv_1.1 e_17
              have h_17 : vp_in i2 300 := (vp_in_iff.mpr (by constructor <;> omega))
              refine va_lald hx hb hK hP k_17 2 hk_17 rfl h_17 dX0_sameAs_58 ?_
              refine lv_topl (fun z_17 ez_17 => ?_)
              refine lv_aload_n hx hb dX0_sameAs_59 rfl (lv_at hl 2 rfl) ?_
              obtain ⟨k_18, hk_18⟩ := va_plg hy0.1 e_2
              refine va_get (D := (dC, dI)) (ci := 0) (v := .ref v_2) (C := RX0) (T := TX0) (N := 4) hx hb hts iX0_ hown hK hP k_18 hk_18 rfl 2 (by decide) (hts (.fieldLink RX0 18 "FieldLeaves$LeafList" "values" "[J") (by decide +kernel)) (fun _ h9 => h9) rfl dX0_sameAs_60 ?_
              refine lv_iload_n hx hb dX0_sameAs_63 rfl (lv_at hl 0 rfl) ?_
              obtain ⟨g_19, e_19⟩ := hPI.a8 fv_2
              obtain ⟨k_19, hk_19⟩ := va_plg fv_2.1 e_19
              have h_19 : vp_in i2 300 := (vp_in_iff.mpr (by constructor <;> omega))
              refine va_lald hx hb hK hP k_19 2 hk_19 rfl h_19 dX0_sameAs_64 ?_
              refine lv_topl (fun z_19 ez_19 => ?_)
              refine W.lcmp hx hb dX0_sameAs_65 ?_
              refine lv_if_eq (tgt := 71) hx hb dX0_sameAs_66 (by decide) (fun c_20 => ?_) (fun c_20 => ?_)
              · have c_20 := congrArg Int64.toInt ((lg_cmp_eq z_17 z_19).mp c_20)
                obtain ⟨i_21, ei_21⟩ : ∃ y : Int32, y = i2 + 1 := ⟨_, rfl⟩
                refine lv_iinc (v := i_21) (lv' := [(2, .int i_21), (0, .ref x0), (1, .ref y0)]) hx hb dX0_sameAs_71 hl (k := 0) rfl (by rw [ei_21]; rfl) (by decide) rfl (fun ls hl => ?_)
                have ki_21 := inc_toInt ei_21 (by omega)
                refine lv_goto (tgt := 15) hx hb dX0_sameAs_74 (by decide) ?_
                exact ih_15 i_21 _ _ _  (by omega) (by omega) hP hS (lv_sub hl [0, 1, 2] rfl)
              · have c_20 := mt (fun h9 => (lg_cmp_eq z_17 z_19).mpr (Int64.toInt_inj.mp h9)) c_20
                refine lv_iconst (v := 0) hx hb dX0_sameAs_69 (by decide) ?_
                subst eQ
                exact W.zret (v := 0) hx hb hr rfl (fun t ht hW => ⟨⟨0, (), rfl, Or.inr rfl, trivial⟩, hS.F ht⟩) hS.2.2 dX0_sameAs_70
    exact loop_15 301 0 _ _ _  (by omega) (by omega) hP hS hl
  · have c_3 := mt Int32.toInt_inj.mp c_3
    refine lv_iconst (v := 0) hx hb dX0_sameAs_11 (by decide) ?_
    subst eQ
    exact W.zret (v := 0) hx hb hr rfl (fun t ht hW => ⟨⟨0, (), rfl, Or.inr rfl, trivial⟩, hS.F ht⟩) hS.2.2 dX0_sameAs_12

