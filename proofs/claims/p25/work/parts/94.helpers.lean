set_option maxRecDepth 20000 in
theorem in_u_X0_has_X0 : ∀ w ∈ u_ws RX0 TX0 4, w ∈ wsX0_has := by decide +kernel
set_option maxRecDepth 100000 in
set_option maxHeartbeats 4000000 in
theorem u_X0_has (l : Launch) (dC : Nat → ClassId) (dI : Nat → Nat → Nat) (TT : Nat × Nat × Nat) (sz : Nat) (kT kI kJ : ClassId) (K : Nat → Nat) (L : List Nat) (f : Nat → va_E) (hPI : PI kT kI kJ K L f) (x0 : Nat) (hx0 : isr K L 0 x0) (k0 : Int32) : Met l yX0_has wsX0_has ({ frames := 0, cells := 0, slots := 0, locals := 0 } : Room) (va_Pc [.ref x0, .int k0] (pr dC dI (va_pl L f) [] [(kT, .object RX1), (kI, .int), (kJ, .long)] sz TT)) (va_Qi (fun (r : Int32) (u : Unit) => (bo r (0 ≤ k0.toInt ∧ k0.toInt < (l_z f x0).toInt)) ∧ (r = 1 → (0 ≤ k0.toInt ∧ k0.toInt < 300))) (fun _ _ => True) (va_A [] sz)) 0 0 (va_A [] sz) := by
  refine Met.ofW (cc := cX0_has) (maxL := 2) (ret := (some .boolean)) (by decide) rfl ?_
  intro p e s m args below meth c s₁ B hml hv
  obtain ⟨rfl, hsz, hP, hK, hD0, hst⟩ := hv
  have hx := B.exec
  have hb := B.bytes
  have hr := B.returns
  have hts := atoms_spec (ws := wsX0_has) B.pre
  have hown : s.vm.findClass RX0 = some m.cls := findClass_of_methodNamed B.named
  have hlocks := B.notSynchronized
  have iX0_ := in_u_X0_has_X0
  subst hsz
  have hD := hD0.self (sz := s.heap.size)
  generalize hAe : va_A [] s.heap.size = A at hD hst ⊢
  have hA : ∀ q : Nat, s.heap.size ≤ q → A q := fun q h => by rw [← hAe]; exact Or.inr h
  have hS : va_S A s.heap s.heap [] := va_S.rf
  have hl := lv_entry ([.ref x0, .int k0]) (n := 2) (Nat.le_of_ble_eq_true rfl)
  rw [lg_entry_eq]
  generalize (lg_sl ([.ref x0, .int k0]) ++ List.replicate (2 - (lg_sl ([.ref x0, .int k0])).length) Slot.unset).toArray = ls at hl ⊢
  have hl : lv_has ls 2 [(0, .ref x0), (1, .int k0)] := hl
  have k0_ : Int32.toInt 0 = 0 := by decide
  have k1_ : Int32.toInt 1 = 1 := by decide
  refine lv_iload_n hx hb dX0_has_0 rfl (lv_at hl 1 rfl) ?_
  refine lv_if_lt (tgt := 16) hx hb dX0_has_1 (by decide) (fun c_1 => ?_) (fun c_1 => ?_)
  · have c_1 := Int32.lt_iff_toInt_lt.mp c_1
    refine lv_iconst (v := 0) hx hb dX0_has_16 (by decide) ?_
    exact W.zret (v := 0) hx hb hr rfl (fun t ht hW => ⟨⟨0, (), rfl, ⟨Or.inr ⟨rfl, (by first | omega | (simp only [cl_0, cl_1, cl_2, cl_4, cl_10, cl_13, cl_16]; omega))⟩, fun h9 => absurd h9 (by decide)⟩, trivial⟩, hS.F ht⟩) hS.2.2 dX0_has_17
  · have c_1 := mt Int32.lt_iff_toInt_lt.mpr c_1
    refine lv_iload_n hx hb dX0_has_4 rfl (lv_at hl 1 rfl) ?_
    refine lv_aload_n hx hb dX0_has_5 rfl (lv_at hl 0 rfl) ?_
    obtain ⟨n_2, d_2, v_2, z_2, e_2, fn_2, fd_2, fv_2, fz_2⟩ := hPI.a0 hx0
    obtain ⟨k_2, hk_2⟩ := va_plg hx0.1 e_2
    refine va_get (D := (dC, dI)) (ci := 0) (v := .int z_2) (C := RX0) (T := TX0) (N := 4) hx hb hts iX0_ hown hK hP k_2 hk_2 rfl 3 (by decide) (hts (.fieldLink RX0 22 "FieldLeaves$LeafList" "size" "I") (by decide +kernel)) (fun _ h9 => h9) rfl dX0_has_6 ?_
    refine lv_icmp_ge (tgt := 16) hx hb dX0_has_9 (by decide) (fun c_3 => ?_) (fun c_3 => ?_)
    · have c_3 := Int32.le_iff_toInt_le.mp c_3
      refine lv_iconst (v := 0) hx hb dX0_has_16 (by decide) ?_
      exact W.zret (v := 0) hx hb hr rfl (fun t ht hW => ⟨⟨0, (), rfl, ⟨Or.inr ⟨rfl, (by have hc0 := congrArg Int32.toInt (li_z e_2); first | omega | (simp only [li_pn e_2, li_pd e_2, li_pv e_2, li_z e_2, cl_0, cl_1, cl_2, cl_4, cl_10, cl_13, cl_16]; omega))⟩, fun h9 => absurd h9 (by decide)⟩, trivial⟩, hS.F ht⟩) hS.2.2 dX0_has_17
    · have c_3 := mt Int32.le_iff_toInt_le.mpr c_3
      refine lv_iconst (v := 1) hx hb dX0_has_12 (by decide) ?_
      refine lv_goto (tgt := 17) hx hb dX0_has_13 (by decide) ?_
      exact W.zret (v := 1) hx hb hr rfl (fun t ht hW => ⟨⟨1, (), rfl, ⟨Or.inl ⟨rfl, (by have hc0 := congrArg Int32.toInt (li_z e_2); first | omega | (simp only [li_pn e_2, li_pd e_2, li_pv e_2, li_z e_2, cl_0, cl_1, cl_2, cl_4, cl_10, cl_13, cl_16]; omega))⟩, fun _ => by constructor <;> omega⟩, trivial⟩, hS.F ht⟩) hS.2.2 dX0_has_17
set_option maxRecDepth 20000 in
theorem in_u_X0_add_X0 : ∀ w ∈ u_ws RX0 TX0 4, w ∈ wsX0_add := by decide +kernel
set_option maxRecDepth 100000 in
set_option maxHeartbeats 4000000 in
theorem u_X0_add (l : Launch) (dC : Nat → ClassId) (dI : Nat → Nat → Nat) (TT : Nat × Nat × Nat) (sz : Nat) (kT kI kJ : ClassId) (K : Nat → Nat) (L : List Nat) (f : Nat → va_E) (hPI : PI kT kI kJ K L f) (x0 : Nat) (hx0 : isr K L 0 x0) (n0 : Int32) (d0 : Int32) (v0 : Int64) : Met l yX0_add wsX0_add ({ frames := 0, cells := 0, slots := 0, locals := 0 } : Room) (va_Pc [.ref x0, .int n0, .int d0, .long v0] (pr dC dI (va_pl L f) (va_pl L f) [(kT, .object RX1), (kI, .int), (kJ, .long)] sz TT)) (va_Qi (fun (r : Int32) (u : Unit) => bo r ((l_z f x0).toInt < 300)) (fun (_ : Unit) t => ∃ f2 : Nat → va_E, PI kT kI kJ K L f2 ∧ (f2 = ks_add f x0 n0 d0 v0) ∧ va_P (dC, dI) vwCl (va_pl L f2) t.heap ∧ va_D (va_A (va_pl L f) sz) (va_pl L f2)) (va_A (va_pl L f) sz)) 0 0 (va_A (va_pl L f) sz) := by
  refine Met.ofW (cc := cX0_add) (maxL := 5) (ret := (some .boolean)) (by decide) rfl ?_
  intro p e s m args below meth c s₁ B hml hv
  obtain ⟨rfl, hsz, hP, hK, hD0, hst⟩ := hv
  have hx := B.exec
  have hb := B.bytes
  have hr := B.returns
  have hts := atoms_spec (ws := wsX0_add) B.pre
  have hown : s.vm.findClass RX0 = some m.cls := findClass_of_methodNamed B.named
  have hlocks := B.notSynchronized
  have iX0_ := in_u_X0_add_X0
  subst hsz
  have hD := hD0.self (sz := s.heap.size)
  generalize hAe : va_A (va_pl L f) s.heap.size = A at hD hst ⊢
  have hA : ∀ q : Nat, s.heap.size ≤ q → A q := fun q h => by rw [← hAe]; exact Or.inr h
  have hS : va_S A s.heap s.heap [] := va_S.rf
  have hl := lv_entry ([.ref x0, .int n0, .int d0, .long v0]) (n := 5) (Nat.le_of_ble_eq_true rfl)
  rw [lg_entry_eq]
  generalize (lg_sl ([.ref x0, .int n0, .int d0, .long v0]) ++ List.replicate (5 - (lg_sl ([.ref x0, .int n0, .int d0, .long v0])).length) Slot.unset).toArray = ls at hl ⊢
  have hl : lv_has ls 5 [(0, .ref x0), (1, .int n0), (2, .int d0), (3, .long v0)] := hl
  have k0_ : Int32.toInt 0 = 0 := by decide
  have k1_ : Int32.toInt 1 = 1 := by decide
  have k300_ : Int32.toInt 300 = 300 := by decide
  refine lv_aload_n hx hb dX0_add_0 rfl (lv_at hl 0 rfl) ?_
  obtain ⟨n_1, d_1, v_1, z_1, e_1, fn_1, fd_1, fv_1, fz_1⟩ := hPI.a0 hx0
  obtain ⟨k_1, hk_1⟩ := va_plg hx0.1 e_1
  refine va_get (D := (dC, dI)) (ci := 0) (v := .int z_1) (C := RX0) (T := TX0) (N := 4) hx hb hts iX0_ hown hK hP k_1 hk_1 rfl 3 (by decide) (hts (.fieldLink RX0 22 "FieldLeaves$LeafList" "size" "I") (by decide +kernel)) (fun _ h9 => h9) rfl dX0_add_1 ?_
  refine lv_sipush (v := 300) hx hb dX0_add_4 (by decide) ?_
  refine lv_icmp_lt (tgt := 12) hx hb dX0_add_7 (by decide) (fun c_2 => ?_) (fun c_2 => ?_)
  · have c_2 := Int32.lt_iff_toInt_lt.mp c_2
    refine lv_aload_n hx hb dX0_add_12 rfl (lv_at hl 0 rfl) ?_
    obtain ⟨k_3, hk_3⟩ := va_plg hx0.1 e_1
    refine va_get (D := (dC, dI)) (ci := 0) (v := .ref n_1) (C := RX0) (T := TX0) (N := 4) hx hb hts iX0_ hown hK hP k_3 hk_3 rfl 0 (by decide) (hts (.fieldLink RX0 9 "FieldLeaves$LeafList" "numbers" "[I") (by decide +kernel)) (fun _ h9 => h9) rfl dX0_add_13 ?_
    refine lv_aload_n hx hb dX0_add_16 rfl (lv_at hl 0 rfl) ?_
    obtain ⟨k_4, hk_4⟩ := va_plg hx0.1 e_1
    refine va_get (D := (dC, dI)) (ci := 0) (v := .int z_1) (C := RX0) (T := TX0) (N := 4) hx hb hts iX0_ hown hK hP k_4 hk_4 rfl 3 (by decide) (hts (.fieldLink RX0 22 "FieldLeaves$LeafList" "size" "I") (by decide +kernel)) (fun _ h9 => h9) rfl dX0_add_17 ?_
    refine lv_iload_n hx hb dX0_add_20 rfl (lv_at hl 1 rfl) ?_
    obtain ⟨g_5, e_5⟩ := hPI.a7 fn_1
    obtain ⟨k_5, hk_5⟩ := va_plg fn_1.1 e_5
    have h_5 : vp_in z_1 300 := (vp_in_iff.mpr (by constructor <;> omega))
    have hD9 := hD
    refine va_iast hx hb hK hP hD hS k_5 1 hk_5 rfl h_5 dX0_add_21 (fun H locs hP hD hS => ?_)
    have hP : va_P (dC, dI) vwCl (va_pl L (va_up f n_1 (.inl (kI, 300, .inl (upd g_5 (Int32.toNatClampNeg z_1) n0))))) H := by rw [← va_pls hD9 fn_1.1 hk_5 _]; exact hP
    have hD : va_D A (va_pl L (va_up f n_1 (.inl (kI, 300, .inl (upd g_5 (Int32.toNatClampNeg z_1) n0))))) := by rw [← va_pls hD9 fn_1.1 hk_5 _]; exact hD
    have hPI := hPI.put (e := .inl (kI, 300, .inl (upd g_5 (Int32.toNatClampNeg z_1) n0))) fn_1 ⟨_, rfl⟩
    have es_f_6 : va_up f n_1 (.inl (kI, 300, .inl (upd g_5 (Int32.toNatClampNeg z_1) n0))) n_1 = .inl (kI, 300, .inl (upd g_5 (Int32.toNatClampNeg z_1) n0)) := va_up_self _ _ _
    have eq_7 := (va_up_ne f (.inl (kI, 300, .inl (upd g_5 (Int32.toNatClampNeg z_1) n0))) (isr_ne hx0 fn_1 (by decide))).trans e_1
    generalize hg_f_6 : va_up f n_1 (.inl (kI, 300, .inl (upd g_5 (Int32.toNatClampNeg z_1) n0))) = f_6 at hP hD hPI es_f_6 eq_7
    refine lv_aload_n hx hb dX0_add_22 rfl (lv_at hl 0 rfl) ?_
    obtain ⟨k_8, hk_8⟩ := va_plg hx0.1 eq_7
    refine va_get (D := (dC, dI)) (ci := 0) (v := .ref d_1) (C := RX0) (T := TX0) (N := 4) hx hb hts iX0_ hown hK hP k_8 hk_8 rfl 1 (by decide) (hts (.fieldLink RX0 15 "FieldLeaves$LeafList" "fields" "[I") (by decide +kernel)) (fun _ h9 => h9) rfl dX0_add_23 ?_
    refine lv_aload_n hx hb dX0_add_26 rfl (lv_at hl 0 rfl) ?_
    obtain ⟨k_9, hk_9⟩ := va_plg hx0.1 eq_7
    refine va_get (D := (dC, dI)) (ci := 0) (v := .int z_1) (C := RX0) (T := TX0) (N := 4) hx hb hts iX0_ hown hK hP k_9 hk_9 rfl 3 (by decide) (hts (.fieldLink RX0 22 "FieldLeaves$LeafList" "size" "I") (by decide +kernel)) (fun _ h9 => h9) rfl dX0_add_27 ?_
    refine lv_iload_n hx hb dX0_add_30 rfl (lv_at hl 2 rfl) ?_
    obtain ⟨g_10, e_10⟩ := hPI.a7 fd_1
    obtain ⟨k_10, hk_10⟩ := va_plg fd_1.1 e_10
    have h_10 : vp_in z_1 300 := (vp_in_iff.mpr (by constructor <;> omega))
    have hD9 := hD
    refine va_iast hx hb hK hP hD hS k_10 1 hk_10 rfl h_10 dX0_add_31 (fun H locs hP hD hS => ?_)
    have hP : va_P (dC, dI) vwCl (va_pl L (va_up f_6 d_1 (.inl (kI, 300, .inl (upd g_10 (Int32.toNatClampNeg z_1) d0))))) H := by rw [← va_pls hD9 fd_1.1 hk_10 _]; exact hP
    have hD : va_D A (va_pl L (va_up f_6 d_1 (.inl (kI, 300, .inl (upd g_10 (Int32.toNatClampNeg z_1) d0))))) := by rw [← va_pls hD9 fd_1.1 hk_10 _]; exact hD
    have hPI := hPI.put (e := .inl (kI, 300, .inl (upd g_10 (Int32.toNatClampNeg z_1) d0))) fd_1 ⟨_, rfl⟩
    have es_f_11 : va_up f_6 d_1 (.inl (kI, 300, .inl (upd g_10 (Int32.toNatClampNeg z_1) d0))) d_1 = .inl (kI, 300, .inl (upd g_10 (Int32.toNatClampNeg z_1) d0)) := va_up_self _ _ _
    have eq_12 := (va_up_ne f_6 (.inl (kI, 300, .inl (upd g_10 (Int32.toNatClampNeg z_1) d0))) (isr_ne hx0 fd_1 (by decide))).trans eq_7
    generalize hg_f_11 : va_up f_6 d_1 (.inl (kI, 300, .inl (upd g_10 (Int32.toNatClampNeg z_1) d0))) = f_11 at hP hD hPI es_f_11 eq_12
    refine lv_aload_n hx hb dX0_add_32 rfl (lv_at hl 0 rfl) ?_
    obtain ⟨k_13, hk_13⟩ := va_plg hx0.1 eq_12
    refine va_get (D := (dC, dI)) (ci := 0) (v := .ref v_1) (C := RX0) (T := TX0) (N := 4) hx hb hts iX0_ hown hK hP k_13 hk_13 rfl 2 (by decide) (hts (.fieldLink RX0 18 "FieldLeaves$LeafList" "values" "[J") (by decide +kernel)) (fun _ h9 => h9) rfl dX0_add_33 ?_
    refine lv_aload_n hx hb dX0_add_36 rfl (lv_at hl 0 rfl) ?_
    obtain ⟨k_14, hk_14⟩ := va_plg hx0.1 eq_12
    refine va_get (D := (dC, dI)) (ci := 0) (v := .int z_1) (C := RX0) (T := TX0) (N := 4) hx hb hts iX0_ hown hK hP k_14 hk_14 rfl 3 (by decide) (hts (.fieldLink RX0 22 "FieldLeaves$LeafList" "size" "I") (by decide +kernel)) (fun _ h9 => h9) rfl dX0_add_37 ?_
    refine lv_lload_n hx hb dX0_add_40 rfl (lv_at hl 3 rfl) ?_
    obtain ⟨g_15, e_15⟩ := hPI.a8 fv_1
    obtain ⟨k_15, hk_15⟩ := va_plg fv_1.1 e_15
    have h_15 : vp_in z_1 300 := (vp_in_iff.mpr (by constructor <;> omega))
    have hD9 := hD
    refine va_last hx hb hK hP hD hS k_15 2 hk_15 rfl h_15 dX0_add_41 (fun H locs hP hD hS => ?_)
    have hP : va_P (dC, dI) vwCl (va_pl L (va_up f_11 v_1 (.inl (kJ, 300, .inr (.inl (vp_updL g_15 (Int32.toNatClampNeg z_1) v0)))))) H := by rw [← va_pls hD9 fv_1.1 hk_15 _]; exact hP
    have hD : va_D A (va_pl L (va_up f_11 v_1 (.inl (kJ, 300, .inr (.inl (vp_updL g_15 (Int32.toNatClampNeg z_1) v0)))))) := by rw [← va_pls hD9 fv_1.1 hk_15 _]; exact hD
    have hPI := hPI.put (e := .inl (kJ, 300, .inr (.inl (vp_updL g_15 (Int32.toNatClampNeg z_1) v0)))) fv_1 ⟨_, rfl⟩
    have es_f_16 : va_up f_11 v_1 (.inl (kJ, 300, .inr (.inl (vp_updL g_15 (Int32.toNatClampNeg z_1) v0)))) v_1 = .inl (kJ, 300, .inr (.inl (vp_updL g_15 (Int32.toNatClampNeg z_1) v0))) := va_up_self _ _ _
    have eq_17 := (va_up_ne f_11 (.inl (kJ, 300, .inr (.inl (vp_updL g_15 (Int32.toNatClampNeg z_1) v0)))) (isr_ne hx0 fv_1 (by decide))).trans eq_12
    have eq_18 := (va_up_ne f_11 (.inl (kJ, 300, .inr (.inl (vp_updL g_15 (Int32.toNatClampNeg z_1) v0)))) (isr_ne fd_1 fv_1 (by decide))).trans es_f_11
    generalize hg_f_16 : va_up f_11 v_1 (.inl (kJ, 300, .inr (.inl (vp_updL g_15 (Int32.toNatClampNeg z_1) v0)))) = f_16 at hP hD hPI es_f_16 eq_17 eq_18
    refine lv_aload_n hx hb dX0_add_42 rfl (lv_at hl 0 rfl) ?_
    refine lv_dup hx hb dX0_add_43 rfl ?_
    obtain ⟨k_19, hk_19⟩ := va_plg hx0.1 eq_17
    refine va_get (D := (dC, dI)) (ci := 0) (v := .int z_1) (C := RX0) (T := TX0) (N := 4) hx hb hts iX0_ hown hK hP k_19 hk_19 rfl 3 (by decide) (hts (.fieldLink RX0 22 "FieldLeaves$LeafList" "size" "I") (by decide +kernel)) (fun _ h9 => h9) rfl dX0_add_44 ?_
    refine lv_iconst (v := 1) hx hb dX0_add_47 (by decide) ?_
    refine lv_iadd hx hb dX0_add_48 ?_
    refine lv_topi (fun z_20 ez_20 => ?_)
    have kz_20 := inc_toInt ez_20 (by omega)
    obtain ⟨k_21, hk_21⟩ := va_plg hx0.1 eq_17
    have hD9 := hD
    have rg_22 : 0 ≤ Int32.toInt z_20 ∧ Int32.toInt z_20 ≤ 300 := by constructor <;> omega
    refine va_put (D := (dC, dI)) (ci := 0) (v := .int z_20) (ty := .int) (C := RX0) (T := TX0) (N := 4) hx hb hts iX0_ tyX0 tyX0_ok nmX0 hown hK hP hD hS k_21 hk_21 rfl 3 (by decide) (hts (.fieldLink RX0 22 "FieldLeaves$LeafList" "size" "I") (by decide +kernel)) (fun _ h9 => h9) rfl (by decide +kernel) rfl rfl (Nat.le_of_ble_eq_true rfl) dX0_add_49 (fun H locs hP hD hS => ?_)
    have hP : va_P (dC, dI) vwCl (va_pl L (va_up f_16 x0 (.inr (0, [.ref n_1, .ref d_1, .ref v_1, .int z_20])))) H := by rw [← va_pls hD9 hx0.1 hk_21 _]; exact hP
    have hD : va_D A (va_pl L (va_up f_16 x0 (.inr (0, [.ref n_1, .ref d_1, .ref v_1, .int z_20])))) := by rw [← va_pls hD9 hx0.1 hk_21 _]; exact hD
    have hPI := hPI.put (e := .inr (0, [.ref n_1, .ref d_1, .ref v_1, .int z_20])) hx0 ⟨n_1, d_1, v_1, z_20, rfl, fn_1, fd_1, fv_1, rg_22⟩
    have es_f_23 : va_up f_16 x0 (.inr (0, [.ref n_1, .ref d_1, .ref v_1, .int z_20])) x0 = .inr (0, [.ref n_1, .ref d_1, .ref v_1, .int z_20]) := va_up_self _ _ _
    have eq_24 := (va_up_ne f_16 (.inr (0, [.ref n_1, .ref d_1, .ref v_1, .int z_20])) (isr_ne fd_1 hx0 (by decide))).trans eq_18
    have eq_25 := (va_up_ne f_16 (.inr (0, [.ref n_1, .ref d_1, .ref v_1, .int z_20])) (isr_ne fv_1 hx0 (by decide))).trans es_f_16
    generalize hg_f_23 : va_up f_16 x0 (.inr (0, [.ref n_1, .ref d_1, .ref v_1, .int z_20])) = f_23 at hP hD hPI es_f_23 eq_24 eq_25
    refine lv_iconst (v := 1) hx hb dX0_add_52 (by decide) ?_
    exact W.zret (v := 1) hx hb hr rfl (fun t ht hW => ⟨⟨1, (), rfl, Or.inl ⟨rfl, (by have hc0 := congrArg Int32.toInt (li_z e_1); have hc2 := congrArg Int32.toInt (li_z eq_7); have hc5 := congrArg Int32.toInt (li_z eq_12); have hc8 := congrArg Int32.toInt (li_z eq_17); have hc11 := congrArg Int32.toInt (li_z es_f_23); first | omega | (simp only [li_pn e_1, li_pd e_1, li_pv e_1, li_z e_1, li_n e_1 e_5, li_pn eq_7, li_pd eq_7, li_pv eq_7, li_z eq_7, li_n eq_7 es_f_6, li_d eq_7 e_10, li_pn eq_12, li_pd eq_12, li_pv eq_12, li_z eq_12, li_d eq_12 es_f_11, li_v eq_12 e_15, li_pn eq_17, li_pd eq_17, li_pv eq_17, li_z eq_17, li_d eq_17 eq_18, li_v eq_17 es_f_16, li_pn es_f_23, li_pd es_f_23, li_pv es_f_23, li_z es_f_23, li_d es_f_23 eq_24, li_v es_f_23 eq_25, ez_20, cl_0, cl_1, cl_2, cl_4, cl_10, cl_13, cl_16]; omega))⟩, f_23, hPI, (by subst hg_f_6 hg_f_11 hg_f_16 hg_f_23; have hc0 := congrArg Int32.toInt (li_z e_1); have hc2 := congrArg Int32.toInt (li_z eq_7); have hc5 := congrArg Int32.toInt (li_z eq_12); have hc8 := congrArg Int32.toInt (li_z eq_17); have hc11 := congrArg Int32.toInt (li_z es_f_23); first | (simp only [ks_add, li_pn e_1, li_pd e_1, li_pv e_1, li_z e_1, li_n e_1 e_5, li_pn eq_7, li_pd eq_7, li_pv eq_7, li_z eq_7, li_n eq_7 es_f_6, li_d eq_7 e_10, li_pn eq_12, li_pd eq_12, li_pv eq_12, li_z eq_12, li_d eq_12 es_f_11, li_v eq_12 e_15, li_pn eq_17, li_pd eq_17, li_pv eq_17, li_z eq_17, li_d eq_17 eq_18, li_v eq_17 es_f_16, li_pn es_f_23, li_pd es_f_23, li_pv es_f_23, li_z es_f_23, li_d es_f_23 eq_24, li_v es_f_23 eq_25, ez_20, cl_0, cl_1, cl_2, cl_4, cl_10, cl_13, cl_16, s_I_of e_5, s_I_of e_10, s_J_of e_15, s_F_of eq_17, List.set_cons_succ, List.set_cons_zero]; done) | (simp only [ks_add, li_pn e_1, li_pd e_1, li_pv e_1, li_z e_1, li_n e_1 e_5, li_pn eq_7, li_pd eq_7, li_pv eq_7, li_z eq_7, li_n eq_7 es_f_6, li_d eq_7 e_10, li_pn eq_12, li_pd eq_12, li_pv eq_12, li_z eq_12, li_d eq_12 es_f_11, li_v eq_12 e_15, li_pn eq_17, li_pd eq_17, li_pv eq_17, li_z eq_17, li_d eq_17 eq_18, li_v eq_17 es_f_16, li_pn es_f_23, li_pd es_f_23, li_pv es_f_23, li_z es_f_23, li_d es_f_23 eq_24, li_v es_f_23 eq_25, ez_20, cl_0, cl_1, cl_2, cl_4, cl_10, cl_13, cl_16, s_I_of e_5, s_I_of e_10, s_J_of e_15, s_F_of eq_17, List.set_cons_succ, List.set_cons_zero] <;> (repeat' split) <;> first | rfl | (exfalso; omega) | contradiction | (simp only [ks_add, li_pn e_1, li_pd e_1, li_pv e_1, li_z e_1, li_n e_1 e_5, li_pn eq_7, li_pd eq_7, li_pv eq_7, li_z eq_7, li_n eq_7 es_f_6, li_d eq_7 e_10, li_pn eq_12, li_pd eq_12, li_pv eq_12, li_z eq_12, li_d eq_12 es_f_11, li_v eq_12 e_15, li_pn eq_17, li_pd eq_17, li_pv eq_17, li_z eq_17, li_d eq_17 eq_18, li_v eq_17 es_f_16, li_pn es_f_23, li_pd es_f_23, li_pv es_f_23, li_z es_f_23, li_d es_f_23 eq_24, li_v es_f_23 eq_25, ez_20, cl_0, cl_1, cl_2, cl_4, cl_10, cl_13, cl_16, s_I_of e_5, s_I_of e_10, s_J_of e_15, s_F_of eq_17, List.set_cons_succ, List.set_cons_zero]; done) | (simp_all; done) | (simp_all; simp only [ks_add, li_pn e_1, li_pd e_1, li_pv e_1, li_z e_1, li_n e_1 e_5, li_pn eq_7, li_pd eq_7, li_pv eq_7, li_z eq_7, li_n eq_7 es_f_6, li_d eq_7 e_10, li_pn eq_12, li_pd eq_12, li_pv eq_12, li_z eq_12, li_d eq_12 es_f_11, li_v eq_12 e_15, li_pn eq_17, li_pd eq_17, li_pv eq_17, li_z eq_17, li_d eq_17 eq_18, li_v eq_17 es_f_16, li_pn es_f_23, li_pd es_f_23, li_pv es_f_23, li_z es_f_23, li_d es_f_23 eq_24, li_v es_f_23 eq_25, ez_20, cl_0, cl_1, cl_2, cl_4, cl_10, cl_13, cl_16, s_I_of e_5, s_I_of e_10, s_J_of e_15, s_F_of eq_17, List.set_cons_succ, List.set_cons_zero]))), by rw [ht]; exact hP, hD⟩, hS.F ht⟩) hS.2.2 dX0_add_53
  · have c_2 := mt Int32.lt_iff_toInt_lt.mpr c_2
    refine lv_iconst (v := 0) hx hb dX0_add_10 (by decide) ?_
    exact W.zret (v := 0) hx hb hr rfl (fun t ht hW => ⟨⟨0, (), rfl, Or.inr ⟨rfl, (by have hc0 := congrArg Int32.toInt (li_z e_1); first | omega | (simp only [li_pn e_1, li_pd e_1, li_pv e_1, li_z e_1, cl_0, cl_1, cl_2, cl_4, cl_10, cl_13, cl_16]; omega))⟩, f, hPI, (by have hc0 := congrArg Int32.toInt (li_z e_1); first | (simp only [ks_add, li_pn e_1, li_pd e_1, li_pv e_1, li_z e_1, cl_0, cl_1, cl_2, cl_4, cl_10, cl_13, cl_16, List.set_cons_succ, List.set_cons_zero]; done) | (simp only [ks_add, li_pn e_1, li_pd e_1, li_pv e_1, li_z e_1, cl_0, cl_1, cl_2, cl_4, cl_10, cl_13, cl_16, List.set_cons_succ, List.set_cons_zero] <;> (repeat' split) <;> first | rfl | (exfalso; omega) | contradiction | (simp only [ks_add, li_pn e_1, li_pd e_1, li_pv e_1, li_z e_1, cl_0, cl_1, cl_2, cl_4, cl_10, cl_13, cl_16, List.set_cons_succ, List.set_cons_zero]; done) | (simp_all; done) | (simp_all; simp only [ks_add, li_pn e_1, li_pd e_1, li_pv e_1, li_z e_1, cl_0, cl_1, cl_2, cl_4, cl_10, cl_13, cl_16, List.set_cons_succ, List.set_cons_zero]))), by rw [ht]; exact hP, hD⟩, hS.F ht⟩) hS.2.2 dX0_add_11
set_option maxRecDepth 100000 in
set_option maxHeartbeats 4000000 in
theorem u_X2_wantedIn (l : Launch) (dC : Nat → ClassId) (dI : Nat → Nat → Nat) (TT : Nat × Nat × Nat) (sz : Nat) (f0 : Int32) : Met l yX2_wantedIn wsX2_wantedIn ({ frames := 0, cells := 0, slots := 0, locals := 0 } : Room) (va_Pc [.int f0] (pr dC dI [] [] [] sz TT)) (va_Qi (fun (r : Int32) (u : Unit) => r = sp_wan f0) (fun _ _ => True) (va_A [] sz)) 0 0 (va_A [] sz) := by
  refine Met.ofW (cc := cX2_wantedIn) (maxL := 1) (ret := (some .int)) (by decide) rfl ?_
  intro p e s m args below meth c s₁ B hml hv
  obtain ⟨rfl, hsz, hP, hK, hD0, hst⟩ := hv
  have hx := B.exec
  have hb := B.bytes
  have hr := B.returns
  have hts := atoms_spec (ws := wsX2_wantedIn) B.pre
  have hown : s.vm.findClass RX2 = some m.cls := findClass_of_methodNamed B.named
  have hlocks := B.notSynchronized
  subst hsz
  have hD := hD0.self (sz := s.heap.size)
  generalize hAe : va_A [] s.heap.size = A at hD hst ⊢
  have hA : ∀ q : Nat, s.heap.size ≤ q → A q := fun q h => by rw [← hAe]; exact Or.inr h
  have hS : va_S A s.heap s.heap [] := va_S.rf
  have hl := lv_entry ([.int f0]) (n := 1) (Nat.le_of_ble_eq_true rfl)
  rw [lg_entry_eq]
  generalize (lg_sl ([.int f0]) ++ List.replicate (1 - (lg_sl ([.int f0])).length) Slot.unset).toArray = ls at hl ⊢
  have hl : lv_has ls 1 [(0, .int f0)] := hl
  have k0_ : Int32.toInt 0 = 0 := by decide
  have k1_ : Int32.toInt 1 = 1 := by decide
  have k5_ : Int32.toInt 5 = 5 := by decide
  have k8_ : Int32.toInt 8 = 8 := by decide
  have k11_ : Int32.toInt 11 = 11 := by decide
  refine lv_iload_n hx hb dX2_wantedIn_0 rfl (lv_at hl 0 rfl) ?_
  refine lv_bipush (v := 8) hx hb dX2_wantedIn_1 (by decide) ?_
  refine lv_icmp_ne (tgt := 8) hx hb dX2_wantedIn_3 (by decide) (fun c_1 => ?_) (fun c_1 => ?_)
  · have c_1 := mt Int32.toInt_inj.mp c_1
    refine lv_iload_n hx hb dX2_wantedIn_8 rfl (lv_at hl 0 rfl) ?_
    refine lv_bipush (v := 11) hx hb dX2_wantedIn_9 (by decide) ?_
    refine lv_icmp_ne (tgt := 18) hx hb dX2_wantedIn_11 (by decide) (fun c_2 => ?_) (fun c_2 => ?_)
    · have c_2 := mt Int32.toInt_inj.mp c_2
      refine lv_iconst (v := 5) hx hb dX2_wantedIn_18 (by decide) ?_
      exact W.iret (v := 5) hx hb hr (fun t ht hW => ⟨⟨5, (), rfl, (show 5 = sp_wan f0 from by unfold sp_wan; (repeat' split) <;> first | rfl | (exfalso; omega)), trivial⟩, hS.F ht⟩) hS.2.2 dX2_wantedIn_19
    · have c_2 := congrArg Int32.toInt c_2
      refine lv_iconst (v := 1) hx hb dX2_wantedIn_14 (by decide) ?_
      refine lv_goto (tgt := 19) hx hb dX2_wantedIn_15 (by decide) ?_
      exact W.iret (v := 1) hx hb hr (fun t ht hW => ⟨⟨1, (), rfl, (show 1 = sp_wan f0 from by unfold sp_wan; (repeat' split) <;> first | rfl | (exfalso; omega)), trivial⟩, hS.F ht⟩) hS.2.2 dX2_wantedIn_19
  · have c_1 := congrArg Int32.toInt c_1
    refine lv_iconst (v := 0) hx hb dX2_wantedIn_6 (by decide) ?_
    exact W.iret (v := 0) hx hb hr (fun t ht hW => ⟨⟨0, (), rfl, (show 0 = sp_wan f0 from by unfold sp_wan; (repeat' split) <;> first | rfl | (exfalso; omega)), trivial⟩, hS.F ht⟩) hS.2.2 dX2_wantedIn_7
set_option maxRecDepth 100000 in
set_option maxHeartbeats 4000000 in
theorem u_X2_floatAsTold (l : Launch) (dC : Nat → ClassId) (dI : Nat → Nat → Nat) (TT : Nat × Nat × Nat) (sz : Nat) (b0 : Int32) : Met l yX2_floatAsTold wsX2_floatAsTold ({ frames := 0, cells := 0, slots := 0, locals := 0 } : Room) (va_Pc [.int b0] (pr dC dI [] [] [] sz TT)) (va_Qi (fun (r : Int32) (u : Unit) => r = sp_ft b0) (fun _ _ => True) (va_A [] sz)) 0 0 (va_A [] sz) := by
  refine Met.ofW (cc := cX2_floatAsTold) (maxL := 1) (ret := (some .int)) (by decide) rfl ?_
  intro p e s m args below meth c s₁ B hml hv
  obtain ⟨rfl, hsz, hP, hK, hD0, hst⟩ := hv
  have hx := B.exec
  have hb := B.bytes
  have hr := B.returns
  have hts := atoms_spec (ws := wsX2_floatAsTold) B.pre
  have hown : s.vm.findClass RX2 = some m.cls := findClass_of_methodNamed B.named
  have hlocks := B.notSynchronized
  subst hsz
  have hD := hD0.self (sz := s.heap.size)
  generalize hAe : va_A [] s.heap.size = A at hD hst ⊢
  have hA : ∀ q : Nat, s.heap.size ≤ q → A q := fun q h => by rw [← hAe]; exact Or.inr h
  have hS : va_S A s.heap s.heap [] := va_S.rf
  have hl := lv_entry ([.int b0]) (n := 1) (Nat.le_of_ble_eq_true rfl)
  rw [lg_entry_eq]
  generalize (lg_sl ([.int b0]) ++ List.replicate (1 - (lg_sl ([.int b0])).length) Slot.unset).toArray = ls at hl ⊢
  have hl : lv_has ls 1 [(0, .int b0)] := hl
  have k2139095040_ : Int32.toInt 2139095040 = 2139095040 := by decide
  have k2143289344_ : Int32.toInt 2143289344 = 2143289344 := by decide
  refine lv_iload_n hx hb dX2_floatAsTold_0 rfl (lv_at hl 0 rfl) ?_
  refine lv_ldc hx hb hown (hts (.constant RX2 171 (2147483647)) (by decide +kernel)) dX2_floatAsTold_1 ?_
  refine lv_iand hx hb dX2_floatAsTold_3 ?_
  refine lv_ldc hx hb hown (hts (.constant RX2 172 (2139095040)) (by decide +kernel)) dX2_floatAsTold_4 ?_
  refine lv_icmp_le (tgt := 14) hx hb dX2_floatAsTold_6 (by decide) (fun c_1 => ?_) (fun c_1 => ?_)
  · have c_1 := Int32.le_iff_toInt_le.mp c_1
    refine lv_iload_n hx hb dX2_floatAsTold_14 rfl (lv_at hl 0 rfl) ?_
    exact W.iret (v := b0) hx hb hr (fun t ht hW => ⟨⟨b0, (), rfl, (show b0 = sp_ft b0 from by unfold sp_ft; (repeat' split) <;> first | rfl | (exfalso; omega)), trivial⟩, hS.F ht⟩) hS.2.2 dX2_floatAsTold_15
  · have c_1 := mt Int32.le_iff_toInt_le.mpr c_1
    refine lv_ldc hx hb hown (hts (.constant RX2 173 (2143289344)) (by decide +kernel)) dX2_floatAsTold_9 ?_
    refine lv_goto (tgt := 15) hx hb dX2_floatAsTold_11 (by decide) ?_
    exact W.iret (v := 2143289344) hx hb hr (fun t ht hW => ⟨⟨2143289344, (), rfl, (show 2143289344 = sp_ft b0 from by unfold sp_ft; (repeat' split) <;> first | rfl | (exfalso; omega)), trivial⟩, hS.F ht⟩) hS.2.2 dX2_floatAsTold_15
set_option maxRecDepth 100000 in
set_option maxHeartbeats 4000000 in
theorem u_X2_doubleAsTold (l : Launch) (dC : Nat → ClassId) (dI : Nat → Nat → Nat) (TT : Nat × Nat × Nat) (sz : Nat) (b0 : Int64) : Met l yX2_doubleAsTold wsX2_doubleAsTold ({ frames := 0, cells := 0, slots := 0, locals := 0 } : Room) (va_Pc [.long b0] (pr dC dI [] [] [] sz TT)) (va_Ql (fun (r : Int64) (u : Unit) => r = sp_dt b0) (fun _ _ => True) (va_A [] sz)) 0 0 (va_A [] sz) := by
  refine Met.ofW (cc := cX2_doubleAsTold) (maxL := 2) (ret := (some .long)) (by decide) rfl ?_
  intro p e s m args below meth c s₁ B hml hv
  obtain ⟨rfl, hsz, hP, hK, hD0, hst⟩ := hv
  have hx := B.exec
  have hb := B.bytes
  have hr := B.returns
  have hts := atoms_spec (ws := wsX2_doubleAsTold) B.pre
  have hown : s.vm.findClass RX2 = some m.cls := findClass_of_methodNamed B.named
  have hlocks := B.notSynchronized
  subst hsz
  have hD := hD0.self (sz := s.heap.size)
  generalize hAe : va_A [] s.heap.size = A at hD hst ⊢
  have hA : ∀ q : Nat, s.heap.size ≤ q → A q := fun q h => by rw [← hAe]; exact Or.inr h
  have hS : va_S A s.heap s.heap [] := va_S.rf
  have hl := lv_entry ([.long b0]) (n := 2) (Nat.le_of_ble_eq_true rfl)
  rw [lg_entry_eq]
  generalize (lg_sl ([.long b0]) ++ List.replicate (2 - (lg_sl ([.long b0])).length) Slot.unset).toArray = ls at hl ⊢
  have hl : lv_has ls 2 [(0, .long b0)] := hl
  have kl9218868437227405312_ : Int64.toInt 9218868437227405312 = 9218868437227405312 := by decide
  have kl9221120237041090560_ : Int64.toInt 9221120237041090560 = 9221120237041090560 := by decide
  refine lv_lload_n hx hb dX2_doubleAsTold_0 rfl (lv_at hl 0 rfl) ?_
  refine lv_ldc2 hx hb hown (hts (.constantLong RX2 174 (9223372036854775807)) (by decide +kernel)) dX2_doubleAsTold_1 ?_
  refine lv_land hx hb dX2_doubleAsTold_4 ?_
  refine lv_ldc2 hx hb hown (hts (.constantLong RX2 176 (9218868437227405312)) (by decide +kernel)) dX2_doubleAsTold_5 ?_
  refine W.lcmp hx hb dX2_doubleAsTold_8 ?_
  refine lv_if_le (tgt := 18) hx hb dX2_doubleAsTold_9 (by decide) (fun c_1 => ?_) (fun c_1 => ?_)
  · have c_1 := Int64.le_iff_toInt_le.mp ((lg_cmp_le (b0 &&& 9223372036854775807) 9218868437227405312).mp c_1)
    refine lv_lload_n hx hb dX2_doubleAsTold_18 rfl (lv_at hl 0 rfl) ?_
    exact W.lret (v := b0) hx hb hr (fun t ht hW => ⟨⟨b0, (), rfl, (show b0 = sp_dt b0 from by unfold sp_dt; (repeat' split) <;> first | rfl | (exfalso; omega)), trivial⟩, hS.F ht⟩) hS.2.2 dX2_doubleAsTold_19
  · have c_1 := mt (fun h9 => (lg_cmp_le (b0 &&& 9223372036854775807) 9218868437227405312).mpr (Int64.le_iff_toInt_le.mpr h9)) c_1
    refine lv_ldc2 hx hb hown (hts (.constantLong RX2 178 (9221120237041090560)) (by decide +kernel)) dX2_doubleAsTold_12 ?_
    refine lv_goto (tgt := 19) hx hb dX2_doubleAsTold_15 (by decide) ?_
    exact W.lret (v := 9221120237041090560) hx hb hr (fun t ht hW => ⟨⟨9221120237041090560, (), rfl, (show 9221120237041090560 = sp_dt b0 from by unfold sp_dt; (repeat' split) <;> first | rfl | (exfalso; omega)), trivial⟩, hS.F ht⟩) hS.2.2 dX2_doubleAsTold_19
set_option maxRecDepth 100000 in
set_option maxHeartbeats 4000000 in
theorem u_X2_asTold (l : Launch) (dC : Nat → ClassId) (dI : Nat → Nat → Nat) (TT : Nat × Nat × Nat) (sz : Nat) (kT kI kJ : ClassId) (K : Nat → Nat) (L : List Nat) (f : Nat → va_E) (hPI : PI kT kI kJ K L f) (f0 : Int32) (v0 : Int64) (hf0 : 0 ≤ f0.toInt ∧ f0.toInt < 17) : Met l yX2_asTold wsX2_asTold ({ frames := 1, cells := 0, slots := 0, locals := 21 } : Room) (va_Pc [.int f0, .long v0] (pr dC dI (va_pl L f) [] [(kT, .object RX1), (kI, .int), (kJ, .long)] sz TT)) (va_Ql (fun (r : Int64) (u : Unit) => r = ks_as f0 v0) (fun _ _ => True) (va_A [] sz)) 0 0 (va_A [] sz) := by
  refine Met.ofW (cc := cX2_asTold) (maxL := 3) (ret := (some .long)) (by decide) rfl ?_
  intro p e s m args below meth c s₁ B hml hv
  obtain ⟨rfl, hsz, hP, hK, hD0, hst⟩ := hv
  have hx := B.exec
  have hb := B.bytes
  have hr := B.returns
  have hts := atoms_spec (ws := wsX2_asTold) B.pre
  have hown : s.vm.findClass RX2 = some m.cls := findClass_of_methodNamed B.named
  have hlocks := B.notSynchronized
  subst hsz
  have hD := hD0.self (sz := s.heap.size)
  generalize hAe : va_A [] s.heap.size = A at hD hst ⊢
  have hA : ∀ q : Nat, s.heap.size ≤ q → A q := fun q h => by rw [← hAe]; exact Or.inr h
  have hS : va_S A s.heap s.heap [] := va_S.rf
  have hl := lv_entry ([.int f0, .long v0]) (n := 3) (Nat.le_of_ble_eq_true rfl)
  rw [lg_entry_eq]
  generalize (lg_sl ([.int f0, .long v0]) ++ List.replicate (3 - (lg_sl ([.int f0, .long v0])).length) Slot.unset).toArray = ls at hl ⊢
  have hl : lv_has ls 3 [(0, .int f0), (1, .long v0)] := hl
  refine va_gets (v := .ref TT.1) hx hb hst.zF hS hown (hts (.fieldLink RX2 161 "FieldLeaves" "FORM" "[I") (by decide +kernel)) (fun _ h9 => h9) dX2_asTold_0 ?_
  refine lv_iload_n hx hb dX2_asTold_3 rfl (lv_at hl 0 rfl) ?_
  have h_1 : vp_in f0 17 := (vp_in_iff.mpr (by constructor <;> omega))
  refine va_ti hx hb hst.tF hS h_1 (v := .int (FORMt (Int32.toNatClampNeg f0))) rfl dX2_asTold_4 ?_
  have fh_1 := FORMt_is h_1
  by_cases sw_5 : (FORMt (Int32.toNatClampNeg f0)).toInt < 0 ∨ 7 < (FORMt (Int32.toNatClampNeg f0)).toInt
  · refine lv_tableOut (tgt := 87) hx hb dX2_asTold_5 sw_5 (by decide) ?_
    refine lv_lload_n hx hb dX2_asTold_87 rfl (lv_at hl 1 rfl) ?_
    exact W.lret (v := v0) hx hb hr (fun t ht hW => ⟨⟨v0, (), rfl, (by first | (simp only [ks_as, cl_0, cl_1, cl_2, cl_4, cl_10, cl_13, cl_16]; done) | (simp only [ks_as, cl_0, cl_1, cl_2, cl_4, cl_10, cl_13, cl_16] <;> (repeat' split) <;> first | rfl | (exfalso; omega) | contradiction | (simp only [ks_as, cl_0, cl_1, cl_2, cl_4, cl_10, cl_13, cl_16]; done) | (simp_all; done) | (simp_all; simp only [ks_as, cl_0, cl_1, cl_2, cl_4, cl_10, cl_13, cl_16]))), trivial⟩, hS.F ht⟩) hS.2.2 dX2_asTold_88
  · rcases (show (FORMt (Int32.toNatClampNeg f0)).toInt = 0 ∨ (FORMt (Int32.toNatClampNeg f0)).toInt = 1 ∨ (FORMt (Int32.toNatClampNeg f0)).toInt = 2 ∨ (FORMt (Int32.toNatClampNeg f0)).toInt = 3 ∨ (FORMt (Int32.toNatClampNeg f0)).toInt = 4 ∨ (FORMt (Int32.toNatClampNeg f0)).toInt = 5 ∨ (FORMt (Int32.toNatClampNeg f0)).toInt = 6 ∨ (FORMt (Int32.toNatClampNeg f0)).toInt = 7 by omega) with sv_5 | sv_5 | sv_5 | sv_5 | sv_5 | sv_5 | sv_5 | sv_5
    · refine lv_tableIn (off := 47) (tgt := 52) hx hb dX2_asTold_5 (by omega) (by omega) (by rw [sv_5]; rfl) (by decide) ?_
      refine lv_lload_n hx hb dX2_asTold_52 rfl (lv_at hl 1 rfl) ?_
      refine lv_lconst (v := 1) hx hb dX2_asTold_53 (by decide) ?_
      refine lv_land hx hb dX2_asTold_54 ?_
      refine lv_topl (fun z_2 ez_2 => ?_)
      exact W.lret (v := z_2) hx hb hr (fun t ht hW => ⟨⟨z_2, (), rfl, (by first | (simp only [ks_as, ez_2, cl_0, cl_1, cl_2, cl_4, cl_10, cl_13, cl_16]; done) | (simp only [ks_as, ez_2, cl_0, cl_1, cl_2, cl_4, cl_10, cl_13, cl_16] <;> (repeat' split) <;> first | rfl | (exfalso; omega) | contradiction | (simp only [ks_as, ez_2, cl_0, cl_1, cl_2, cl_4, cl_10, cl_13, cl_16]; done) | (simp_all; done) | (simp_all; simp only [ks_as, ez_2, cl_0, cl_1, cl_2, cl_4, cl_10, cl_13, cl_16]))), trivial⟩, hS.F ht⟩) hS.2.2 dX2_asTold_55
    · refine lv_tableIn (off := 51) (tgt := 56) hx hb dX2_asTold_5 (by omega) (by omega) (by rw [sv_5]; rfl) (by decide) ?_
      refine lv_lload_n hx hb dX2_asTold_56 rfl (lv_at hl 1 rfl) ?_
      refine lv_l2i hx hb dX2_asTold_57 rfl ?_
      refine lv_topi (fun z_3 ez_3 => ?_)
      refine lv_i2b hx hb dX2_asTold_58 rfl ?_
      refine lv_topi (fun z_4 ez_4 => ?_)
      refine lv_i2l (v := Int32.toInt64 z_4) hx hb dX2_asTold_59 rfl ?_
      have k_z_5 := Int32.toInt_toInt64 z_4
      exact W.lret (v := (Int32.toInt64 z_4)) hx hb hr (fun t ht hW => ⟨⟨(Int32.toInt64 z_4), (), rfl, (by first | (simp only [ks_as, ez_3, ez_4, cl_0, cl_1, cl_2, cl_4, cl_10, cl_13, cl_16]; done) | (simp only [ks_as, ez_3, ez_4, cl_0, cl_1, cl_2, cl_4, cl_10, cl_13, cl_16] <;> (repeat' split) <;> first | rfl | (exfalso; omega) | contradiction | (simp only [ks_as, ez_3, ez_4, cl_0, cl_1, cl_2, cl_4, cl_10, cl_13, cl_16]; done) | (simp_all; done) | (simp_all; simp only [ks_as, ez_3, ez_4, cl_0, cl_1, cl_2, cl_4, cl_10, cl_13, cl_16]))), trivial⟩, hS.F ht⟩) hS.2.2 dX2_asTold_60
    · refine lv_tableIn (off := 56) (tgt := 61) hx hb dX2_asTold_5 (by omega) (by omega) (by rw [sv_5]; rfl) (by decide) ?_
      refine lv_lload_n hx hb dX2_asTold_61 rfl (lv_at hl 1 rfl) ?_
      refine lv_l2i hx hb dX2_asTold_62 rfl ?_
      refine lv_topi (fun z_6 ez_6 => ?_)
      refine lv_i2s hx hb dX2_asTold_63 rfl ?_
      refine lv_topi (fun z_7 ez_7 => ?_)
      refine lv_i2l (v := Int32.toInt64 z_7) hx hb dX2_asTold_64 rfl ?_
      have k_z_8 := Int32.toInt_toInt64 z_7
      exact W.lret (v := (Int32.toInt64 z_7)) hx hb hr (fun t ht hW => ⟨⟨(Int32.toInt64 z_7), (), rfl, (by first | (simp only [ks_as, ez_6, ez_7, cl_0, cl_1, cl_2, cl_4, cl_10, cl_13, cl_16]; done) | (simp only [ks_as, ez_6, ez_7, cl_0, cl_1, cl_2, cl_4, cl_10, cl_13, cl_16] <;> (repeat' split) <;> first | rfl | (exfalso; omega) | contradiction | (simp only [ks_as, ez_6, ez_7, cl_0, cl_1, cl_2, cl_4, cl_10, cl_13, cl_16]; done) | (simp_all; done) | (simp_all; simp only [ks_as, ez_6, ez_7, cl_0, cl_1, cl_2, cl_4, cl_10, cl_13, cl_16]))), trivial⟩, hS.F ht⟩) hS.2.2 dX2_asTold_65
    · refine lv_tableIn (off := 61) (tgt := 66) hx hb dX2_asTold_5 (by omega) (by omega) (by rw [sv_5]; rfl) (by decide) ?_
      refine lv_lload_n hx hb dX2_asTold_66 rfl (lv_at hl 1 rfl) ?_
      refine lv_l2i hx hb dX2_asTold_67 rfl ?_
      refine lv_topi (fun z_9 ez_9 => ?_)
      refine lv_i2c hx hb dX2_asTold_68 rfl ?_
      refine lv_topi (fun z_10 ez_10 => ?_)
      refine lv_i2l (v := Int32.toInt64 z_10) hx hb dX2_asTold_69 rfl ?_
      have k_z_11 := Int32.toInt_toInt64 z_10
      exact W.lret (v := (Int32.toInt64 z_10)) hx hb hr (fun t ht hW => ⟨⟨(Int32.toInt64 z_10), (), rfl, (by first | (simp only [ks_as, ez_9, ez_10, cl_0, cl_1, cl_2, cl_4, cl_10, cl_13, cl_16]; done) | (simp only [ks_as, ez_9, ez_10, cl_0, cl_1, cl_2, cl_4, cl_10, cl_13, cl_16] <;> (repeat' split) <;> first | rfl | (exfalso; omega) | contradiction | (simp only [ks_as, ez_9, ez_10, cl_0, cl_1, cl_2, cl_4, cl_10, cl_13, cl_16]; done) | (simp_all; done) | (simp_all; simp only [ks_as, ez_9, ez_10, cl_0, cl_1, cl_2, cl_4, cl_10, cl_13, cl_16]))), trivial⟩, hS.F ht⟩) hS.2.2 dX2_asTold_70
    · refine lv_tableIn (off := 66) (tgt := 71) hx hb dX2_asTold_5 (by omega) (by omega) (by rw [sv_5]; rfl) (by decide) ?_
      refine lv_lload_n hx hb dX2_asTold_71 rfl (lv_at hl 1 rfl) ?_
      refine lv_l2i hx hb dX2_asTold_72 rfl ?_
      refine lv_topi (fun z_12 ez_12 => ?_)
      refine lv_i2l (v := Int32.toInt64 z_12) hx hb dX2_asTold_73 rfl ?_
      have k_z_13 := Int32.toInt_toInt64 z_12
      exact W.lret (v := (Int32.toInt64 z_12)) hx hb hr (fun t ht hW => ⟨⟨(Int32.toInt64 z_12), (), rfl, (by first | (simp only [ks_as, ez_12, cl_0, cl_1, cl_2, cl_4, cl_10, cl_13, cl_16]; done) | (simp only [ks_as, ez_12, cl_0, cl_1, cl_2, cl_4, cl_10, cl_13, cl_16] <;> (repeat' split) <;> first | rfl | (exfalso; omega) | contradiction | (simp only [ks_as, ez_12, cl_0, cl_1, cl_2, cl_4, cl_10, cl_13, cl_16]; done) | (simp_all; done) | (simp_all; simp only [ks_as, ez_12, cl_0, cl_1, cl_2, cl_4, cl_10, cl_13, cl_16]))), trivial⟩, hS.F ht⟩) hS.2.2 dX2_asTold_74
    · refine lv_tableIn (off := 82) (tgt := 87) hx hb dX2_asTold_5 (by omega) (by omega) (by rw [sv_5]; rfl) (by decide) ?_
      refine lv_lload_n hx hb dX2_asTold_87 rfl (lv_at hl 1 rfl) ?_
      exact W.lret (v := v0) hx hb hr (fun t ht hW => ⟨⟨v0, (), rfl, (by first | (simp only [ks_as, cl_0, cl_1, cl_2, cl_4, cl_10, cl_13, cl_16]; done) | (simp only [ks_as, cl_0, cl_1, cl_2, cl_4, cl_10, cl_13, cl_16] <;> (repeat' split) <;> first | rfl | (exfalso; omega) | contradiction | (simp only [ks_as, cl_0, cl_1, cl_2, cl_4, cl_10, cl_13, cl_16]; done) | (simp_all; done) | (simp_all; simp only [ks_as, cl_0, cl_1, cl_2, cl_4, cl_10, cl_13, cl_16]))), trivial⟩, hS.F ht⟩) hS.2.2 dX2_asTold_88
    · refine lv_tableIn (off := 70) (tgt := 75) hx hb dX2_asTold_5 (by omega) (by omega) (by rw [sv_5]; rfl) (by decide) ?_
      refine lv_lload_n hx hb dX2_asTold_75 rfl (lv_at hl 1 rfl) ?_
      refine lv_l2i hx hb dX2_asTold_76 rfl ?_
      refine lv_topi (fun z_14 ez_14 => ?_)
      refine va_calli (va_runS (As := [.int z_14]) (rest := []) ⟨hx, hb, hml, hown, hts⟩ (u_X2_floatAsTold l dC dI TT s.heap.size z_14) (va_cwS 1 hts gX2_asTold_X2_floatAsTold rfl rfl rfl (by decide +kernel) ⟨Nat.le_of_ble_eq_true rfl, Nat.le_of_ble_eq_true rfl⟩) (pr_S (ws := []) (wA := []) (tys := []) vp_nil (hK.sub [] rfl) vd_nil hst hS (ro_free hS hA)) rfl rfl hl.1 rfl (lv_room (Nat.le_of_ble_eq_true rfl)) dX2_asTold_77 ⟨Nat.le_of_ble_eq_true rfl, Nat.le_of_ble_eq_true rfl⟩) hS (fun q _ h => (ro_free hS hA) q h) (ro_free hS hA) (fun r_15 u t H1 locs ht hvm hw hB hz1 hk1 hS => ?_)
      have hP := ro_keep hP hk1
      generalize H1 = H at hP hS ⊢
      have hq_16 := hw
      refine lv_i2l (v := Int32.toInt64 r_15) hx hb dX2_asTold_80 rfl ?_
      have k_z_17 := Int32.toInt_toInt64 r_15
      exact W.lret (v := (Int32.toInt64 r_15)) hx hb hr (fun t ht hW => ⟨⟨(Int32.toInt64 r_15), (), rfl, (by have hdhq_16 := congrArg Int32.toInt hq_16; first | (simp only [ks_as, ez_14, hq_16, cl_0, cl_1, cl_2, cl_4, cl_10, cl_13, cl_16]; done) | (simp only [ks_as, ez_14, hq_16, cl_0, cl_1, cl_2, cl_4, cl_10, cl_13, cl_16] <;> (repeat' split) <;> first | rfl | (exfalso; omega) | contradiction | (simp only [ks_as, ez_14, hq_16, cl_0, cl_1, cl_2, cl_4, cl_10, cl_13, cl_16]; done) | (simp_all; done) | (simp_all; simp only [ks_as, ez_14, hq_16, cl_0, cl_1, cl_2, cl_4, cl_10, cl_13, cl_16]))), trivial⟩, hS.F ht⟩) hS.2.2 dX2_asTold_81
    · refine lv_tableIn (off := 77) (tgt := 82) hx hb dX2_asTold_5 (by omega) (by omega) (by rw [sv_5]; rfl) (by decide) ?_
      refine lv_lload_n hx hb dX2_asTold_82 rfl (lv_at hl 1 rfl) ?_
      refine va_calll (va_runS (As := [.long v0]) (rest := []) ⟨hx, hb, hml, hown, hts⟩ (u_X2_doubleAsTold l dC dI TT s.heap.size v0) (va_cwS 1 hts gX2_asTold_X2_doubleAsTold rfl rfl rfl (by decide +kernel) ⟨Nat.le_of_ble_eq_true rfl, Nat.le_of_ble_eq_true rfl⟩) (pr_S (ws := []) (wA := []) (tys := []) vp_nil (hK.sub [] rfl) vd_nil hst hS (ro_free hS hA)) rfl rfl hl.1 rfl (lv_room (Nat.le_of_ble_eq_true rfl)) dX2_asTold_83 ⟨Nat.le_of_ble_eq_true rfl, Nat.le_of_ble_eq_true rfl⟩) hS (fun q _ h => (ro_free hS hA) q h) (ro_free hS hA) (fun r_18 u t H1 locs ht hvm hw hB hz1 hk1 hS => ?_)
      have hP := ro_keep hP hk1
      generalize H1 = H at hP hS ⊢
      have hQ_19 := hw
      exact W.lret (v := r_18) hx hb hr (fun t ht hW => ⟨⟨r_18, (), rfl, (by first | (simp only [ks_as, hQ_19, cl_0, cl_1, cl_2, cl_4, cl_10, cl_13, cl_16]; done) | (simp only [ks_as, hQ_19, cl_0, cl_1, cl_2, cl_4, cl_10, cl_13, cl_16] <;> (repeat' split) <;> first | rfl | (exfalso; omega) | contradiction | (simp only [ks_as, hQ_19, cl_0, cl_1, cl_2, cl_4, cl_10, cl_13, cl_16]; done) | (simp_all; done) | (simp_all; simp only [ks_as, hQ_19, cl_0, cl_1, cl_2, cl_4, cl_10, cl_13, cl_16]))), trivial⟩, hS.F ht⟩) hS.2.2 dX2_asTold_86
set_option maxRecDepth 100000 in
set_option maxHeartbeats 4000000 in
theorem u_X2_failureAs (l : Launch) (dC : Nat → ClassId) (dI : Nat → Nat → Nat) (TT : Nat × Nat × Nat) (sz : Nat) (kT kI kJ : ClassId) (K : Nat → Nat) (L : List Nat) (f : Nat → va_E) (hPI : PI kT kI kJ K L f) (x0 : Nat) (hx0 : isr K L 1 x0) (w0 : Int32) : Met l yX2_failureAs wsX2_failureAs ({ frames := 1, cells := 0, slots := 0, locals := 21 } : Room) (va_Pc [.ref x0, .int w0] (pr dC dI (va_pl L f) [] [(kT, .object RX1), (kI, .int), (kJ, .long)] sz TT)) (va_Qi (fun (r : Int32) (u : Unit) => (r = 0 ∧ ((w0.toInt = 5 ∧ ¬ (g_cn f x0).toInt = 4) ∨ (¬ w0.toInt = 5 ∧ w0.toInt ≤ 2 ∧ w0.toInt ≤ (g_cn f x0).toInt ∧ (g_cn f x0).toInt ≤ 2) ∨ (¬ w0.toInt = 5 ∧ ¬ w0.toInt ≤ 2 ∧ (g_cn f x0).toInt = w0.toInt))) ∨ (r = -14 ∧ ¬ ((w0.toInt = 5 ∧ ¬ (g_cn f x0).toInt = 4) ∨ (¬ w0.toInt = 5 ∧ w0.toInt ≤ 2 ∧ w0.toInt ≤ (g_cn f x0).toInt ∧ (g_cn f x0).toInt ≤ 2) ∨ (¬ w0.toInt = 5 ∧ ¬ w0.toInt ≤ 2 ∧ (g_cn f x0).toInt = w0.toInt)))) (fun _ _ => True) (va_A [] sz)) 0 0 (va_A [] sz) := by
  refine Met.ofW (cc := cX2_failureAs) (maxL := 2) (ret := (some .int)) (by decide) rfl ?_
  intro p e s m args below meth c s₁ B hml hv
  obtain ⟨rfl, hsz, hP, hK, hD0, hst⟩ := hv
  have hx := B.exec
  have hb := B.bytes
  have hr := B.returns
  have hts := atoms_spec (ws := wsX2_failureAs) B.pre
  have hown : s.vm.findClass RX2 = some m.cls := findClass_of_methodNamed B.named
  have hlocks := B.notSynchronized
  subst hsz
  have hD := hD0.self (sz := s.heap.size)
  generalize hAe : va_A [] s.heap.size = A at hD hst ⊢
  have hA : ∀ q : Nat, s.heap.size ≤ q → A q := fun q h => by rw [← hAe]; exact Or.inr h
  have hS : va_S A s.heap s.heap [] := va_S.rf
  have hl := lv_entry ([.ref x0, .int w0]) (n := 2) (Nat.le_of_ble_eq_true rfl)
  rw [lg_entry_eq]
  generalize (lg_sl ([.ref x0, .int w0]) ++ List.replicate (2 - (lg_sl ([.ref x0, .int w0])).length) Slot.unset).toArray = ls at hl ⊢
  have hl : lv_has ls 2 [(0, .ref x0), (1, .int w0)] := hl
  have km14_ : Int32.toInt (-14) = -14 := by decide
  have k0_ : Int32.toInt 0 = 0 := by decide
  refine lv_aload_n hx hb dX2_failureAs_0 rfl (lv_at hl 0 rfl) ?_
  refine lv_ifnonnull (tgt := 7) hx hb dX2_failureAs_1 (by decide) ?_
  refine lv_aload_n hx hb dX2_failureAs_7 rfl (lv_at hl 0 rfl) ?_
  refine lv_iload_n hx hb dX2_failureAs_8 rfl (lv_at hl 1 rfl) ?_
  obtain ⟨cn_1, v_1, b_1, m_1, st_1, i_1, e_1, fv_1, fb_1, fm_1, fst_1, fi_1⟩ := hPI.a1 hx0
  obtain ⟨k_1, hk_1⟩ := va_plg hx0.1 e_1
  refine va_calli (va_runV (b := x0) (As := [.int w0]) (rest := []) ⟨hx, hb, hml, hown, hts⟩ (u_X1_isOf l dC dI TT s.heap.size kT kI kJ K L f hPI x0 hx0 w0) (cwV 1 hts gX2_failureAs_X1_isOf rfl rfl rfl (by decide +kernel) ⟨Nat.le_of_ble_eq_true rfl, Nat.le_of_ble_eq_true rfl⟩) ⟨pr_blind, va_recv hK hP (ci := 1) rfl hk_1, (pr_S (ws := va_pl L f) (wA := []) (tys := [(kT, .object RX1), (kI, .int), (kJ, .long)]) hP hK vd_nil hst hS (ro_free hS hA)).2⟩ rfl rfl hl.1 rfl (lv_room (Nat.le_of_ble_eq_true rfl)) dX2_failureAs_9 ⟨Nat.le_of_ble_eq_true rfl, Nat.le_of_ble_eq_true rfl⟩) hS (fun q _ h => (ro_free hS hA) q h) (ro_free hS hA) (fun r_2 u t H1 locs ht hvm hw hB hz1 hk1 hS => ?_)
  have hP := ro_keep hP hk1
  generalize H1 = H at hP hS ⊢
  rcases hw with ⟨rfl, hp_3⟩ | ⟨rfl, hp_3⟩
  · refine lv_if_eq (tgt := 19) hx hb dX2_failureAs_12 (by decide) (fun c9 => absurd c9 (by decide)) (fun _ => ?_)
    refine lv_iconst (v := 0) hx hb dX2_failureAs_15 (by decide) ?_
    refine lv_goto (tgt := 21) hx hb dX2_failureAs_16 (by decide) ?_
    exact W.iret (v := 0) hx hb hr (fun t ht hW => ⟨⟨0, (), rfl, Or.inl ⟨rfl, by omega⟩, trivial⟩, hS.F ht⟩) hS.2.2 dX2_failureAs_21
  · refine lv_if_eq (tgt := 19) hx hb dX2_failureAs_12 (by decide) (fun _ => ?_) (fun c9 => absurd c9 (by decide))
    refine lv_bipush (v := (-14)) hx hb dX2_failureAs_19 (by decide) ?_
    exact W.iret (v := (-14)) hx hb hr (fun t ht hW => ⟨⟨(-14), (), rfl, Or.inr ⟨rfl, by omega⟩, trivial⟩, hS.F ht⟩) hS.2.2 dX2_failureAs_21
set_option maxRecDepth 20000 in
theorem in_u_X2_failureOfRow_X1 : ∀ w ∈ u_ws RX1 TX1 6, w ∈ wsX2_failureOfRow := by decide +kernel
set_option maxRecDepth 100000 in
set_option maxHeartbeats 4000000 in
theorem u_X2_failureOfRow (l : Launch) (dC : Nat → ClassId) (dI : Nat → Nat → Nat) (TT : Nat × Nat × Nat) (sz : Nat) (kT kI kJ : ClassId) (K : Nat → Nat) (L : List Nat) (f : Nat → va_E) (hPI : PI kT kI kJ K L f) (x0 : Nat) (hx0 : isr K L 1 x0) : Met l yX2_failureOfRow wsX2_failureOfRow ({ frames := 2, cells := 0, slots := 0, locals := 42 } : Room) (va_Pc [.ref x0] (pr dC dI (va_pl L f) [] [(kT, .object RX1), (kI, .int), (kJ, .long)] sz TT)) (va_Qi (fun (r : Int32) (u : Unit) => rowok f x0 r ∧ ((r = 0 ∧ (0 ≤ (g_cn f x0).toInt ∧ (g_cn f x0).toInt ≤ 2) ∧ ¬ g_rw f x0 = none) ∨ (r = -14 ∧ ¬ (0 ≤ (g_cn f x0).toInt ∧ (g_cn f x0).toInt ≤ 2)) ∨ (r = -11 ∧ (0 ≤ (g_cn f x0).toInt ∧ (g_cn f x0).toInt ≤ 2) ∧ g_rw f x0 = none))) (fun _ _ => True) (va_A [] sz)) 0 0 (va_A [] sz) := by
  refine Met.ofW (cc := cX2_failureOfRow) (maxL := 2) (ret := (some .int)) (by decide) rfl ?_
  intro p e s m args below meth c s₁ B hml hv
  obtain ⟨rfl, hsz, hP, hK, hD0, hst⟩ := hv
  have hx := B.exec
  have hb := B.bytes
  have hr := B.returns
  have hts := atoms_spec (ws := wsX2_failureOfRow) B.pre
  have hown : s.vm.findClass RX2 = some m.cls := findClass_of_methodNamed B.named
  have hlocks := B.notSynchronized
  have iX1_ := in_u_X2_failureOfRow_X1
  subst hsz
  have hD := hD0.self (sz := s.heap.size)
  generalize hAe : va_A [] s.heap.size = A at hD hst ⊢
  have hA : ∀ q : Nat, s.heap.size ≤ q → A q := fun q h => by rw [← hAe]; exact Or.inr h
  have hS : va_S A s.heap s.heap [] := va_S.rf
  have hl := lv_entry ([.ref x0]) (n := 2) (Nat.le_of_ble_eq_true rfl)
  rw [lg_entry_eq]
  generalize (lg_sl ([.ref x0]) ++ List.replicate (2 - (lg_sl ([.ref x0])).length) Slot.unset).toArray = ls at hl ⊢
  have hl : lv_has ls 2 [(0, .ref x0)] := hl
  have km14_ : Int32.toInt (-14) = -14 := by decide
  have km11_ : Int32.toInt (-11) = -11 := by decide
  have k0_ : Int32.toInt 0 = 0 := by decide
  refine lv_aload_n hx hb dX2_failureOfRow_0 rfl (lv_at hl 0 rfl) ?_
  refine lv_iconst (v := 0) hx hb dX2_failureOfRow_1 (by decide) ?_
  refine va_calli (va_runS (As := [.ref x0, .int 0]) (rest := []) ⟨hx, hb, hml, hown, hts⟩ (u_X2_failureAs l dC dI TT s.heap.size kT kI kJ K L f hPI x0 hx0 0) (va_cwS 2 hts gX2_failureOfRow_X2_failureAs rfl rfl rfl (by decide +kernel) ⟨Nat.le_of_ble_eq_true rfl, Nat.le_of_ble_eq_true rfl⟩) (pr_S (ws := va_pl L f) (wA := []) (tys := [(kT, .object RX1), (kI, .int), (kJ, .long)]) hP hK vd_nil hst hS (ro_free hS hA)) rfl rfl hl.1 rfl (lv_room (Nat.le_of_ble_eq_true rfl)) dX2_failureOfRow_2 ⟨Nat.le_of_ble_eq_true rfl, Nat.le_of_ble_eq_true rfl⟩) hS (fun q _ h => (ro_free hS hA) q h) (ro_free hS hA) (fun r_1 u t H1 locs ht hvm hw hB hz1 hk1 hS => ?_)
  have hP := ro_keep hP hk1
  generalize H1 = H at hP hS ⊢
  rcases hw with ⟨rfl, hp_2⟩ | ⟨rfl, hp_2⟩
  · refine lv_istore_n (lv' := [(1, .int 0), (0, .ref x0)]) hx hb dX2_failureOfRow_5 rfl hl (by decide) rfl (fun ls hl => ?_)
    refine lv_iload_n hx hb dX2_failureOfRow_6 rfl (lv_at hl 0 rfl) ?_
    refine lv_if_eq (tgt := 12) hx hb dX2_failureOfRow_7 (by decide) (fun _ => ?_) (fun c9 => absurd c9 (by decide))
    refine lv_aload_n hx hb dX2_failureOfRow_12 rfl (lv_at hl 1 rfl) ?_
    obtain ⟨cn_3, v_3, b_3, m_3, st_3, i_3, e_3, fv_3, fb_3, fm_3, fst_3, fi_3⟩ := hPI.a1 hx0
    obtain ⟨k_3, hk_3⟩ := va_plg hx0.1 e_3
    refine va_get (D := (dC, dI)) (ci := 1) (v := va_rf i_3) (C := RX1) (T := TX1) (N := 6) hx hb hts iX1_ hown hK hP k_3 hk_3 rfl 5 (by decide) (hts (.fieldLink RX2 91 "FieldLeaves$Thing" "ints" "[I") (by decide +kernel)) (fun _ h9 => h9) rfl dX2_failureOfRow_13 ?_
    rcases i_3 with _ | y_4
    · refine W.eq (g2 := F0 m 16 ls [.null]) rfl ?_
      refine lv_ifnonnullN hx hb dX2_failureOfRow_16 ?_
      refine lv_bipush (v := (-11)) hx hb dX2_failureOfRow_19 (by decide) ?_
      refine lv_goto (tgt := 25) hx hb dX2_failureOfRow_21 (by decide) ?_
      exact W.iret (v := (-11)) hx hb hr (fun t ht hW => ⟨⟨(-11), (), rfl, ⟨fun h9 => absurd h9 (by decide), Or.inr (Or.inr ⟨rfl, by omega, th_rw0 e_3⟩)⟩, trivial⟩, hS.F ht⟩) hS.2.2 dX2_failureOfRow_25
    · have fy_4 := fi_3 y_4 rfl
      refine W.eq (g2 := F0 m 16 ls [.ref y_4]) rfl ?_
      refine lv_ifnonnull (tgt := 24) hx hb dX2_failureOfRow_16 (by decide) ?_
      refine lv_iconst (v := 0) hx hb dX2_failureOfRow_24 (by decide) ?_
      exact W.iret (v := 0) hx hb hr (fun t ht hW => ⟨⟨0, (), rfl, ⟨(fun _ cn v b m st i h9 => by rw [← th_ints e_3 h9]; exact fun h8 => by cases h8), Or.inl ⟨rfl, by omega, by rw [th_rw e_3]; exact fun h8 => by cases h8⟩⟩, trivial⟩, hS.F ht⟩) hS.2.2 dX2_failureOfRow_25
  · refine lv_istore_n (lv' := [(1, .int (-14)), (0, .ref x0)]) hx hb dX2_failureOfRow_5 rfl hl (by decide) rfl (fun ls hl => ?_)
    refine lv_iload_n hx hb dX2_failureOfRow_6 rfl (lv_at hl 0 rfl) ?_
    refine lv_if_eq (tgt := 12) hx hb dX2_failureOfRow_7 (by decide) (fun c9 => absurd c9 (by decide)) (fun _ => ?_)
    refine lv_iload_n hx hb dX2_failureOfRow_10 rfl (lv_at hl 0 rfl) ?_
    exact W.iret (v := (-14)) hx hb hr (fun t ht hW => ⟨⟨(-14), (), rfl, ⟨fun h9 => absurd h9 (by decide), Or.inr (Or.inl ⟨rfl, by omega⟩)⟩, trivial⟩, hS.F ht⟩) hS.2.2 dX2_failureOfRow_11
set_option maxRecDepth 20000 in
theorem in_u_X2_thrown_X1 : ∀ w ∈ u_ws RX1 TX1 6, w ∈ wsX2_thrown := by decide +kernel
set_option maxRecDepth 100000 in
set_option maxHeartbeats 4000000 in
theorem u_X2_thrown (l : Launch) (dC : Nat → ClassId) (dI : Nat → Nat → Nat) (TT : Nat × Nat × Nat) (sz : Nat) (kT kI kJ : ClassId) (K : Nat → Nat) (L : List Nat) (f : Nat → va_E) (hPI : PI kT kI kJ K L f) (x0 : Nat) (hx0 : isr K L 1 x0) : Met l yX2_thrown wsX2_thrown ({ frames := 2, cells := 0, slots := 0, locals := 42 } : Room) (va_Pc [.ref x0] (pr dC dI (va_pl L f) [] [(kT, .object RX1), (kI, .int), (kJ, .long)] sz TT)) (va_Qi (fun (r : Int32) (u : Unit) => r = ks_thrown (g_cn f) (g_vl f) x0) (fun _ _ => True) (va_A [] sz)) 0 0 (va_A [] sz) := by
  refine Met.ofW (cc := cX2_thrown) (maxL := 2) (ret := (some .int)) (by decide) rfl ?_
  intro p e s m args below meth c s₁ B hml hv
  obtain ⟨rfl, hsz, hP, hK, hD0, hst⟩ := hv
  have hx := B.exec
  have hb := B.bytes
  have hr := B.returns
  have hts := atoms_spec (ws := wsX2_thrown) B.pre
  have hown : s.vm.findClass RX2 = some m.cls := findClass_of_methodNamed B.named
  have hlocks := B.notSynchronized
  have iX1_ := in_u_X2_thrown_X1
  subst hsz
  have hD := hD0.self (sz := s.heap.size)
  generalize hAe : va_A [] s.heap.size = A at hD hst ⊢
  have hA : ∀ q : Nat, s.heap.size ≤ q → A q := fun q h => by rw [← hAe]; exact Or.inr h
  have hS : va_S A s.heap s.heap [] := va_S.rf
  have hl := lv_entry ([.ref x0]) (n := 2) (Nat.le_of_ble_eq_true rfl)
  rw [lg_entry_eq]
  generalize (lg_sl ([.ref x0]) ++ List.replicate (2 - (lg_sl ([.ref x0])).length) Slot.unset).toArray = ls at hl ⊢
  have hl : lv_has ls 2 [(0, .ref x0)] := hl
  have km14_ : Int32.toInt (-14) = -14 := by decide
  have k4_ : Int32.toInt 4 = 4 := by decide
  refine lv_aload_n hx hb dX2_thrown_0 rfl (lv_at hl 0 rfl) ?_
  refine lv_iconst (v := 4) hx hb dX2_thrown_1 (by decide) ?_
  refine va_calli (va_runS (As := [.ref x0, .int 4]) (rest := []) ⟨hx, hb, hml, hown, hts⟩ (u_X2_failureAs l dC dI TT s.heap.size kT kI kJ K L f hPI x0 hx0 4) (va_cwS 2 hts gX2_thrown_X2_failureAs rfl rfl rfl (by decide +kernel) ⟨Nat.le_of_ble_eq_true rfl, Nat.le_of_ble_eq_true rfl⟩) (pr_S (ws := va_pl L f) (wA := []) (tys := [(kT, .object RX1), (kI, .int), (kJ, .long)]) hP hK vd_nil hst hS (ro_free hS hA)) rfl rfl hl.1 rfl (lv_room (Nat.le_of_ble_eq_true rfl)) dX2_thrown_2 ⟨Nat.le_of_ble_eq_true rfl, Nat.le_of_ble_eq_true rfl⟩) hS (fun q _ h => (ro_free hS hA) q h) (ro_free hS hA) (fun r_1 u t H1 locs ht hvm hw hB hz1 hk1 hS => ?_)
  have hP := ro_keep hP hk1
  generalize H1 = H at hP hS ⊢
  rcases hw with ⟨rfl, hp_2⟩ | ⟨rfl, hp_2⟩
  · refine lv_istore_n (lv' := [(1, .int 0), (0, .ref x0)]) hx hb dX2_thrown_5 rfl hl (by decide) rfl (fun ls hl => ?_)
    refine lv_iload_n hx hb dX2_thrown_6 rfl (lv_at hl 0 rfl) ?_
    refine lv_if_eq (tgt := 14) hx hb dX2_thrown_7 (by decide) (fun _ => ?_) (fun c9 => absurd c9 (by decide))
    refine lv_aload_n hx hb dX2_thrown_14 rfl (lv_at hl 1 rfl) ?_
    obtain ⟨cn_3, v_3, b_3, m_3, st_3, i_3, e_3, fv_3, fb_3, fm_3, fst_3, fi_3⟩ := hPI.a1 hx0
    obtain ⟨k_3, hk_3⟩ := va_plg hx0.1 e_3
    refine va_get (D := (dC, dI)) (ci := 1) (v := .ref v_3) (C := RX1) (T := TX1) (N := 6) hx hb hts iX1_ hown hK hP k_3 hk_3 rfl 1 (by decide) (hts (.fieldLink RX2 65 "FieldLeaves$Thing" "values" "[J") (by decide +kernel)) (fun _ h9 => h9) rfl dX2_thrown_15 ?_
    refine lv_bipush (v := 16) hx hb dX2_thrown_18 (by decide) ?_
    obtain ⟨g_4, e_4⟩ := hPI.a3 fv_3
    obtain ⟨k_4, hk_4⟩ := va_plg fv_3.1 e_4
    have h_4 : vp_in 16 17 := (vp_in_iff.mpr (by decide))
    refine va_lald hx hb hK hP k_4 2 hk_4 rfl h_4 dX2_thrown_20 ?_
    refine lv_topl (fun z_4 ez_4 => ?_)
    refine lv_l2i hx hb dX2_thrown_21 rfl ?_
    refine lv_topi (fun z_5 ez_5 => ?_)
    exact W.iret (v := z_5) hx hb hr (fun t ht hW => ⟨⟨z_5, (), rfl, (by have hc0 := congrArg Int32.toInt (th_cn e_3); first | (simp only [ks_thrown, th_cn e_3, th_pv e_3, th_b e_3, th_m e_3, th_s e_3, th_lk e_3, th_vl e_3 e_4, ez_4, ez_5, cl_0, cl_1, cl_2, cl_4, cl_10, cl_13, cl_16]; done) | (simp only [ks_thrown, th_cn e_3, th_pv e_3, th_b e_3, th_m e_3, th_s e_3, th_lk e_3, th_vl e_3 e_4, ez_4, ez_5, cl_0, cl_1, cl_2, cl_4, cl_10, cl_13, cl_16] <;> (repeat' split) <;> first | rfl | (exfalso; omega) | contradiction | (simp only [ks_thrown, th_cn e_3, th_pv e_3, th_b e_3, th_m e_3, th_s e_3, th_lk e_3, th_vl e_3 e_4, ez_4, ez_5, cl_0, cl_1, cl_2, cl_4, cl_10, cl_13, cl_16]; done) | (simp_all; done) | (simp_all; simp only [ks_thrown, th_cn e_3, th_pv e_3, th_b e_3, th_m e_3, th_s e_3, th_lk e_3, th_vl e_3 e_4, ez_4, ez_5, cl_0, cl_1, cl_2, cl_4, cl_10, cl_13, cl_16]))), trivial⟩, hS.F ht⟩) hS.2.2 dX2_thrown_22
  · refine lv_istore_n (lv' := [(1, .int (-14)), (0, .ref x0)]) hx hb dX2_thrown_5 rfl hl (by decide) rfl (fun ls hl => ?_)
    refine lv_iload_n hx hb dX2_thrown_6 rfl (lv_at hl 0 rfl) ?_
    refine lv_if_eq (tgt := 14) hx hb dX2_thrown_7 (by decide) (fun c9 => absurd c9 (by decide)) (fun _ => ?_)
    refine lv_iload_n hx hb dX2_thrown_10 rfl (lv_at hl 0 rfl) ?_
    refine lv_goto (tgt := 22) hx hb dX2_thrown_11 (by decide) ?_
    exact W.iret (v := (-14)) hx hb hr (fun t ht hW => ⟨⟨(-14), (), rfl, (by first | (simp only [ks_thrown, cl_0, cl_1, cl_2, cl_4, cl_10, cl_13, cl_16]; done) | (simp only [ks_thrown, cl_0, cl_1, cl_2, cl_4, cl_10, cl_13, cl_16] <;> (repeat' split) <;> first | rfl | (exfalso; omega) | contradiction | (simp only [ks_thrown, cl_0, cl_1, cl_2, cl_4, cl_10, cl_13, cl_16]; done) | (simp_all; done) | (simp_all; simp only [ks_thrown, cl_0, cl_1, cl_2, cl_4, cl_10, cl_13, cl_16]))), trivial⟩, hS.F ht⟩) hS.2.2 dX2_thrown_22

