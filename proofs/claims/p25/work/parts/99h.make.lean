set_option maxRecDepth 20000 in
theorem in_u_X1_init_X1 : ∀ w ∈ u_ws RX1 TX1 6, w ∈ wsX1_init := by decide +kernel
set_option maxRecDepth 20000 in
theorem oi_u_X1_init : Cond.code objectInit ⟨#[0xb1]⟩ 1 none ∈ wsX1_init := List.mem_of_getElem? (i := 3) rfl
set_option maxRecDepth 100000 in
set_option maxHeartbeats 4000000 in
theorem u_X1_init (l : Launch) (dC : Nat → ClassId) (dI : Nat → Nat → Nat) (TT : Nat × Nat × Nat) (sz : Nat) (kJ : ClassId) (t0 : Nat) (c0 n0 : Int32) : Met l yX1_init wsX1_init ({ frames := 1, cells := 1, slots := 17, locals := 12 } : Room) (va_Pc [.ref t0, .int c0, .int n0] (pr dC dI [(t0, .inr (1, [.int 0, .null, .null, .null, .null, .null]))] [(t0, .inr (1, [.int 0, .null, .null, .null, .null, .null]))] [(kJ, .long)] sz TT)) (va_Qv (fun (u : Nat) => True) (fun (u : Nat) t => va_P (dC, dI) vwCl [(t0, .inr (1, [.int c0, .ref u, .null, .null, .null, .null])), (u, .inl (kJ, 17, .inr (.inl (ks_vals c0 n0))))] t.heap ∧ va_D (va_A [(t0, .inr (1, [.int 0, .null, .null, .null, .null, .null]))] sz) [(t0, .inr (1, [.int c0, .ref u, .null, .null, .null, .null])), (u, .inl (kJ, 17, .inr (.inl (ks_vals c0 n0))))]) (va_A [(t0, .inr (1, [.int 0, .null, .null, .null, .null, .null]))] sz)) 1 17 (va_A [(t0, .inr (1, [.int 0, .null, .null, .null, .null, .null]))] sz) := by
  refine Met.ofW (cc := cX1_init) (maxL := 3) (ret := none) (by decide) rfl ?_
  intro p e s m args below meth c s₁ B hml hv
  obtain ⟨rfl, hsz, hP, hK, hD0, hst⟩ := hv
  have hx := B.exec
  have hb := B.bytes
  have hr := B.returns
  have hts := atoms_spec (ws := wsX1_init) B.pre
  have hown : s.vm.findClass RX1 = some m.cls := findClass_of_methodNamed B.named
  have hlocks := B.notSynchronized
  have hin : meth.name = "<init>" := (name_of_methodNamed B.named B.method).1
  have iX1_ := in_u_X1_init_X1
  have oi_ := oi_u_X1_init
  subst hsz
  have hD := hD0.self (sz := s.heap.size)
  generalize hAe : va_A [(t0, .inr (1, [.int 0, .null, .null, .null, .null, .null]))] s.heap.size = A at hD hst ⊢
  have hA : ∀ q : Nat, s.heap.size ≤ q → A q := fun q h => by rw [← hAe]; exact Or.inr h
  have hS : va_S A s.heap s.heap [] := va_S.rf
  have hl := lv_entry ([.ref t0, .int c0, .int n0]) (n := 3) (Nat.le_of_ble_eq_true rfl)
  rw [lg_entry_eq]
  generalize (lg_sl ([.ref t0, .int c0, .int n0]) ++ List.replicate (3 - (lg_sl ([.ref t0, .int c0, .int n0])).length) Slot.unset).toArray = ls at hl ⊢
  have hl : lv_has ls 3 [(0, .ref t0), (1, .int c0), (2, .int n0)] := hl
  have k2_ : Int32.toInt 2 = 2 := by decide
  have k4_ : Int32.toInt 4 = 4 := by decide
  refine lv_aload_n hx hb dX1_init_0 rfl (lv_at hl 0 rfl) ?_
  refine W.objInit hx hb hown (hts (.methodLink RX1 3 objectInit) (by decide +kernel)) (hts (.instanceMethod objectInit) (by decide +kernel)) (hts (.code objectInit ⟨#[0xb1]⟩ 1 none) oi_) rfl (by rw [hml]; exact hl.1) rfl dX1_init_1 (Nat.le_of_ble_eq_true rfl) (Nat.le_of_ble_eq_true rfl) ?_
  refine W.eq (g2 := F0 m 4 ls []) rfl ?_
  refine lv_aload_n hx hb dX1_init_4 rfl (lv_at hl 0 rfl) ?_
  refine lv_bipush (v := 17) hx hb dX1_init_5 (by decide) ?_
  refine va_newa (a0 := (17, .inr (.inl (fun _ => 0)))) (N' := 17) (atype := .long) (ty := .long) hx hb (hts (.arrayClass .long) (by decide +kernel)) rfl hK hP hD hS hA (newJ 17) (by decide) (by decide) (by decide) (Nat.le_of_ble_eq_true rfl) (Nat.le_of_ble_eq_true rfl) dX1_init_7 (fun q_1 k_2 H hK hP hD hS => ?_)
  have hP : va_P (dC, dI) vwCl [(t0, .inr (1, [.int 0, .null, .null, .null, .null, .null])), (q_1, .inl (k_2, 17, .inr (.inl (fun _ => 0))))] H := hP
  have hD : va_D A [(t0, .inr (1, [.int 0, .null, .null, .null, .null, .null])), (q_1, .inl (k_2, 17, .inr (.inl (fun _ => 0))))] := hD
  have hK : va_K (dC, dI) vwCl [(kJ, .long), (k_2, .long)] s := hK
  refine W.widen (k := 1) (n := 17) (by omega) (by omega) ?_
  refine va_putF (D := (dC, dI)) (ci := 1) (v := .ref q_1) (ty := .array .long) (C := RX1) (T := TX1) (N := 6) hx hb hts iX1_ tyX1 tyX1_ok nmX1 hown hK hP hD hS 0 rfl rfl 1 (by decide) (hts (.fieldLink RX1 9 "FieldLeaves$Thing" "values" "[J") (by decide +kernel)) (fun _ h9 => h9) rfl hin rfl (by decide +kernel) rfl rfl (Nat.le_of_ble_eq_true rfl) dX1_init_9 (fun H locs hP hD hS => ?_)
  have hP : va_P (dC, dI) vwCl [(t0, .inr (1, [.int 0, .ref q_1, .null, .null, .null, .null])), (q_1, .inl (k_2, 17, .inr (.inl (fun _ => 0))))] H := hP
  have hD : va_D A [(t0, .inr (1, [.int 0, .ref q_1, .null, .null, .null, .null])), (q_1, .inl (k_2, 17, .inr (.inl (fun _ => 0))))] := hD
  refine lv_aload_n hx hb dX1_init_12 rfl (lv_at hl 0 rfl) ?_
  refine lv_iload_n hx hb dX1_init_13 rfl (lv_at hl 1 rfl) ?_
  refine va_putF (D := (dC, dI)) (ci := 1) (v := .int c0) (ty := .int) (C := RX1) (T := TX1) (N := 6) hx hb hts iX1_ tyX1 tyX1_ok nmX1 hown hK hP hD hS 0 rfl rfl 0 (by decide) (hts (.fieldLink RX1 15 "FieldLeaves$Thing" "classNumber" "I") (by decide +kernel)) (fun _ h9 => h9) rfl hin rfl (by decide +kernel) rfl rfl (Nat.le_of_ble_eq_true rfl) dX1_init_14 (fun H locs hP hD hS => ?_)
  have hP : va_P (dC, dI) vwCl [(t0, .inr (1, [.int c0, .ref q_1, .null, .null, .null, .null])), (q_1, .inl (k_2, 17, .inr (.inl (fun _ => 0))))] H := hP
  have hD : va_D A [(t0, .inr (1, [.int c0, .ref q_1, .null, .null, .null, .null])), (q_1, .inl (k_2, 17, .inr (.inl (fun _ => 0))))] := hD
  refine lv_iload_n hx hb dX1_init_17 rfl (lv_at hl 1 rfl) ?_
  refine lv_iconst (v := 2) hx hb dX1_init_18 (by decide) ?_
  refine lv_icmp_ne (tgt := 34) hx hb dX1_init_19 (by decide) (fun c_3 => ?_) (fun c_3 => ?_)
  · have c_3 := mt Int32.toInt_inj.mp c_3
    refine lv_iload_n hx hb dX1_init_34 rfl (lv_at hl 1 rfl) ?_
    refine lv_iconst (v := 4) hx hb dX1_init_35 (by decide) ?_
    refine lv_icmp_ne (tgt := 48) hx hb dX1_init_36 (by decide) (fun c_4 => ?_) (fun c_4 => ?_)
    · have c_4 := mt Int32.toInt_inj.mp c_4
      refine W.widen (k := 1) (n := 17) (by decide) (by decide) ?_
      obtain rfl : kJ = k_2 := ty_one hK 0 1 rfl rfl (Or.inr rfl)
      have hv : (fun _ => 0) = ks_vals c0 n0 := by unfold ks_vals; (repeat' split) <;> first | rfl | (exfalso; omega)
      rw [hv] at hP hD
      exact W.vret hx hb hr (fun t ht hW => ⟨⟨q_1, rfl, trivial, by rw [ht]; exact hP, hD⟩, hS.F ht⟩) hS.2.2 dX1_init_48
    · have c_4 := congrArg Int32.toInt c_4
      refine lv_aload_n hx hb dX1_init_39 rfl (lv_at hl 0 rfl) ?_
      refine va_get (D := (dC, dI)) (ci := 1) (v := .ref q_1) (C := RX1) (T := TX1) (N := 6) hx hb hts iX1_ hown hK hP 0 rfl rfl 1 (by decide) (hts (.fieldLink RX1 9 "FieldLeaves$Thing" "values" "[J") (by decide +kernel)) (fun _ h9 => h9) rfl dX1_init_40 ?_
      refine lv_bipush (v := 16) hx hb dX1_init_43 (by decide) ?_
      refine lv_iload_n hx hb dX1_init_45 rfl (lv_at hl 2 rfl) ?_
      refine lv_i2l (v := Int32.toInt64 n0) hx hb dX1_init_46 rfl ?_
      have k_z_5 := Int32.toInt_toInt64 n0
      have h_6 : vp_in 16 17 := (vp_in_iff.mpr (by decide))
      refine va_last hx hb hK hP hD hS 1 1 rfl rfl h_6 dX1_init_47 (fun H locs hP hD hS => ?_)
      generalize eg_7 : (vp_updL (fun _ => 0) (Int32.toNatClampNeg 16) (Int32.toInt64 n0)) = g_7 at hP hD
      have hP : va_P (dC, dI) vwCl [(t0, .inr (1, [.int c0, .ref q_1, .null, .null, .null, .null])), (q_1, .inl (k_2, 17, .inr (.inl g_7)))] H := hP
      have hD : va_D A [(t0, .inr (1, [.int c0, .ref q_1, .null, .null, .null, .null])), (q_1, .inl (k_2, 17, .inr (.inl g_7)))] := hD
      refine W.widen (k := 1) (n := 17) (by decide) (by decide) ?_
      obtain rfl : kJ = k_2 := ty_one hK 0 1 rfl rfl (Or.inr rfl)
      have hv : g_7 = ks_vals c0 n0 := by unfold ks_vals; rw [← eg_7]; (repeat' split) <;> first | rfl | (exfalso; omega)
      rw [hv] at hP hD
      exact W.vret hx hb hr (fun t ht hW => ⟨⟨q_1, rfl, trivial, by rw [ht]; exact hP, hD⟩, hS.F ht⟩) hS.2.2 dX1_init_48
  · have c_3 := congrArg Int32.toInt c_3
    refine lv_aload_n hx hb dX1_init_22 rfl (lv_at hl 0 rfl) ?_
    refine va_get (D := (dC, dI)) (ci := 1) (v := .ref q_1) (C := RX1) (T := TX1) (N := 6) hx hb hts iX1_ hown hK hP 0 rfl rfl 1 (by decide) (hts (.fieldLink RX1 9 "FieldLeaves$Thing" "values" "[J") (by decide +kernel)) (fun _ h9 => h9) rfl dX1_init_23 ?_
    refine lv_bipush (v := 13) hx hb dX1_init_26 (by decide) ?_
    refine lv_iload_n hx hb dX1_init_28 rfl (lv_at hl 2 rfl) ?_
    refine lv_i2l (v := Int32.toInt64 n0) hx hb dX1_init_29 rfl ?_
    have k_z_8 := Int32.toInt_toInt64 n0
    have h_9 : vp_in 13 17 := (vp_in_iff.mpr (by decide))
    refine va_last hx hb hK hP hD hS 1 1 rfl rfl h_9 dX1_init_30 (fun H locs hP hD hS => ?_)
    generalize eg_10 : (vp_updL (fun _ => 0) (Int32.toNatClampNeg 13) (Int32.toInt64 n0)) = g_10 at hP hD
    have hP : va_P (dC, dI) vwCl [(t0, .inr (1, [.int c0, .ref q_1, .null, .null, .null, .null])), (q_1, .inl (k_2, 17, .inr (.inl g_10)))] H := hP
    have hD : va_D A [(t0, .inr (1, [.int c0, .ref q_1, .null, .null, .null, .null])), (q_1, .inl (k_2, 17, .inr (.inl g_10)))] := hD
    refine lv_goto (tgt := 48) hx hb dX1_init_31 (by decide) ?_
    refine W.widen (k := 1) (n := 17) (by decide) (by decide) ?_
    obtain rfl : kJ = k_2 := ty_one hK 0 1 rfl rfl (Or.inr rfl)
    have hv : g_10 = ks_vals c0 n0 := by unfold ks_vals; rw [← eg_10]; (repeat' split) <;> first | rfl | (exfalso; omega)
    rw [hv] at hP hD
    exact W.vret hx hb hr (fun t ht hW => ⟨⟨q_1, rfl, trivial, by rw [ht]; exact hP, hD⟩, hS.F ht⟩) hS.2.2 dX1_init_48
set_option maxRecDepth 20000 in
theorem in_u_X2_make_X1 : ∀ w ∈ u_ws RX1 TX1 6, w ∈ wsX2_make := by decide +kernel
set_option maxRecDepth 20000 in
theorem in_u_X2_make_X2 : ∀ w ∈ u_ws RX2 TX2 9, w ∈ wsX2_make := by decide +kernel
set_option maxRecDepth 100000 in
set_option maxHeartbeats 4000000 in
theorem u_X2_make (l : Launch) (dC : Nat → ClassId) (dI : Nat → Nat → Nat) (TT : Nat × Nat × Nat) (sz : Nat) (kT kI kJ : ClassId) (K : Nat → Nat) (L : List Nat) (f : Nat → va_E) (hPI : PI kT kI kJ K L f) (h0 : Nat) (hh0 : isr K L 2 h0) (p0 : Int32) (p1 : Int32) (p2 : Int32) : Met l yX2_make wsX2_make ({ frames := 2, cells := 2, slots := 23, locals := 34 } : Room) (va_Pc [.ref h0, .int p0, .int p1, .int p2] (pr dC dI (va_pl L f) (va_pl L f) [(kT, .object RX1), (kI, .int), (kJ, .long)] sz TT)) (va_Qi (fun (r : Int32) (u : Unit) => r = sp_make p0 p1 p2) (fun (_ : Unit) t => ∃ (K2 : Nat → Nat) (L2 : List Nat) (f2 : Nat → va_E), PI kT kI kJ K2 L2 f2 ∧ EXT K L K2 L2 ∧ (ks_mk kJ K L f h0 p0 p1 p2 K2 L2 f2) ∧ va_P (dC, dI) vwCl (va_pl L2 f2) t.heap ∧ va_D (va_A (va_pl L f) sz) (va_pl L2 f2)) (va_A (va_pl L f) sz)) 2 23 (va_A (va_pl L f) sz) := by
  refine Met.ofW (cc := cX2_make) (maxL := 4) (ret := (some .int)) (by decide) rfl ?_
  intro p e s m args below meth c s₁ B hml hv
  obtain ⟨rfl, hsz, hP, hK, hD0, hst⟩ := hv
  have hx := B.exec
  have hb := B.bytes
  have hr := B.returns
  have hts := atoms_spec (ws := wsX2_make) B.pre
  have hown : s.vm.findClass RX2 = some m.cls := findClass_of_methodNamed B.named
  have hlocks := B.notSynchronized
  have iX1_ := in_u_X2_make_X1
  have iX2_ := in_u_X2_make_X2
  subst hsz
  have hD := hD0.self (sz := s.heap.size)
  generalize hAe : va_A (va_pl L f) s.heap.size = A at hD hst ⊢
  have hA : ∀ q : Nat, s.heap.size ≤ q → A q := fun q h => by rw [← hAe]; exact Or.inr h
  have hS : va_S A s.heap s.heap [] := va_S.rf
  have hl := lv_entry ([.ref h0, .int p0, .int p1, .int p2]) (n := 4) (Nat.le_of_ble_eq_true rfl)
  rw [lg_entry_eq]
  generalize (lg_sl ([.ref h0, .int p0, .int p1, .int p2]) ++ List.replicate (4 - (lg_sl ([.ref h0, .int p0, .int p1, .int p2])).length) Slot.unset).toArray = ls at hl ⊢
  have hl : lv_has ls 4 [(0, .ref h0), (1, .int p0), (2, .int p1), (3, .int p2)] := hl
  have km18_ : Int32.toInt (-18) = -18 := by decide
  have km1_ : Int32.toInt (-1) = -1 := by decide
  have k0_ : Int32.toInt 0 = 0 := by decide
  have k1_ : Int32.toInt 1 = 1 := by decide
  have k4_ : Int32.toInt 4 = 4 := by decide
  refine lv_iload_n hx hb dX2_make_0 rfl (lv_at hl 1 rfl) ?_
  refine va_calli (va_runS (As := [.int p0]) (rest := []) ⟨hx, hb, hml, hown, hts⟩ (c_X2_isSlot l dC dI TT s.heap.size p0) (va_cwS 1 hts gX2_make_X2_isSlot rfl rfl rfl (by decide +kernel) ⟨Nat.le_of_ble_eq_true rfl, Nat.le_of_ble_eq_true rfl⟩) (pr_S (ws := []) (wA := []) (tys := []) vp_nil (hK.sub [] rfl) vd_nil hst hS (ro_free hS hA)) rfl rfl hl.1 rfl (lv_room (Nat.le_of_ble_eq_true rfl)) dX2_make_1 ⟨Nat.le_of_ble_eq_true rfl, Nat.le_of_ble_eq_true rfl⟩) hS (fun q _ h => (ro_free hS hA) q h) (ro_free hS hA) (fun r_1 u t H1 locs ht hvm hw hB hz1 hk1 hS => ?_)
  have hP := ro_keep hP hk1
  generalize H1 = H at hP hS ⊢
  rcases hw with ⟨rfl, hp_2⟩ | ⟨rfl, hp_2⟩
  · refine lv_if_eq (tgt := 16) hx hb dX2_make_4 (by decide) (fun c9 => absurd c9 (by decide)) (fun _ => ?_)
    refine lv_iload_n hx hb dX2_make_7 rfl (lv_at hl 2 rfl) ?_
    refine lv_if_lt (tgt := 16) hx hb dX2_make_8 (by decide) (fun c_3 => ?_) (fun c_3 => ?_)
    · have c_3 := Int32.lt_iff_toInt_lt.mp c_3
      refine lv_iconst (v := (-1)) hx hb dX2_make_16 (by decide) ?_
      refine W.widen (k := 2) (n := 23) (by omega) (by omega) ?_
      exact W.iret (v := (-1)) hx hb hr (fun t ht hW => ⟨⟨(-1), (), rfl, (show (-1) = sp_make p0 p1 p2 from by unfold sp_make; (repeat' split) <;> first | rfl | (exfalso; omega)), K, L, f, hPI, EXT.rf, Or.inl ⟨by omega, rfl, rfl, rfl⟩, by rw [ht]; exact hP, hD⟩, hS.F ht⟩) hS.2.2 dX2_make_17
    · have c_3 := mt Int32.lt_iff_toInt_lt.mpr c_3
      refine lv_iload_n hx hb dX2_make_11 rfl (lv_at hl 2 rfl) ?_
      refine lv_iconst (v := 4) hx hb dX2_make_12 (by decide) ?_
      refine lv_icmp_le (tgt := 18) hx hb dX2_make_13 (by decide) (fun c_4 => ?_) (fun c_4 => ?_)
      · have c_4 := Int32.le_iff_toInt_le.mp c_4
        refine lv_iload_n hx hb dX2_make_18 rfl (lv_at hl 2 rfl) ?_
        refine lv_iload_n hx hb dX2_make_19 rfl (lv_at hl 3 rfl) ?_
        refine va_calli (va_runS (As := [.int p1, .int p2]) (rest := []) ⟨hx, hb, hml, hown, hts⟩ (c_X2_makerTakes l dC dI TT H.size p1 p2) (va_cwS 2 hts gX2_make_X2_makerTakes rfl rfl rfl (by decide +kernel) ⟨Nat.le_of_ble_eq_true rfl, Nat.le_of_ble_eq_true rfl⟩) (pr_S (ws := []) (wA := []) (tys := []) vp_nil (hK.sub [] rfl) vd_nil hst hS (ro_free hS hA)) rfl rfl hl.1 rfl (lv_room (Nat.le_of_ble_eq_true rfl)) dX2_make_20 ⟨Nat.le_of_ble_eq_true rfl, Nat.le_of_ble_eq_true rfl⟩) hS (fun q _ h => (ro_free hS hA) q h) (ro_free hS hA) (fun r_5 u t H1 locs ht hvm hw hB hz1 hk1 hS => ?_)
        have hP := ro_keep hP hk1
        generalize H1 = H at hP hS ⊢
        rcases hw with ⟨rfl, hp_6⟩ | ⟨rfl, hp_6⟩
        · refine lv_if_ne (tgt := 29) hx hb dX2_make_23 (by decide) (fun _ => ?_) (fun c9 => absurd c9 (by decide))
          refine lv_aload_n hx hb dX2_make_29 rfl (lv_at hl 0 rfl) ?_
          obtain ⟨q1_7, pc_7, c1_7, c2_7, c3_7, q5_7, fc_7, q7_7, mc_7, e_7, fq1_7, fc1_7, fc2_7, fc3_7, fq5_7, ffc_7, fq7_7, fmc_7⟩ := hPI.a2 hh0
          obtain ⟨k_7, hk_7⟩ := va_plg hh0.1 e_7
          refine va_get (D := (dC, dI)) (ci := 2) (v := .ref q1_7) (C := RX2) (T := TX2) (N := 9) hx hb hts iX2_ hown hK hP k_7 hk_7 rfl 0 (by decide) (hts (.fieldLink RX2 11 "FieldLeaves" "slots" "[LFieldLeaves$Thing;") (by decide +kernel)) (fun _ h9 => h9) rfl dX2_make_30 ?_
          refine lv_iload_n hx hb dX2_make_33 rfl (lv_at hl 1 rfl) ?_
          refine va_new (ci := 1) (fs := [.int 0, .null, .null, .null, .null, .null]) (C := RX1) (T := TX1) (N := 6) hx hb hts iX1_ tyX1 tyX1_ok hown (hts (.classLink RX2 9 RX1) (by decide +kernel)) (hts (.instantiable RX1 6) (by decide +kernel)) (hts (.initialized RX1) (by decide +kernel)) hK hP hD hS hA rfl (fun j hj => by rcases (show j = 0 ∨ j = 1 ∨ j = 2 ∨ j = 3 ∨ j = 4 ∨ j = 5 by omega) with rfl | rfl | rfl | rfl | rfl | rfl <;> rfl) (Nat.le_of_ble_eq_true rfl) (Nat.le_of_ble_eq_true rfl) dX2_make_34 (fun q_8 H hP hD hS => ?_)
          have hP := wp_rot hP
          have hD := wd_rot hD
          refine W.widen (k := 1) (n := 6) (by omega) (by omega) ?_
          refine lv_dup hx hb dX2_make_37 rfl ?_
          refine lv_iload_n hx hb dX2_make_38 rfl (lv_at hl 2 rfl) ?_
          refine lv_iload_n hx hb dX2_make_39 rfl (lv_at hl 3 rfl) ?_
          have hFc := va_free (wc := [(q_8, .inr (1, [.int 0, .null, .null, .null, .null, .null]))]) hD hS hA [0] rfl
          have hDt := (hD.sub (ws' := [(q_8, .inr (1, [.int 0, .null, .null, .null, .null, .null]))]) [0] (by decide) rfl).weaken (B := fun _ => True) (fun _ _ _ _ => trivial)
          refine va_callv (va_runI (As := [.int p1, .int p2]) (rest := [.ref q_8, .int p0, .ref q1_7]) ⟨hx, hb, hml, hown, hts⟩ (u_X1_init l dC dI TT H.size kJ q_8 p1 p2) (cwI 2 hts gX2_make_X1_init rfl rfl rfl (hts (.initialized RX1) (by decide +kernel)) (hts (.methodLink RX2 42 yX1_init) (by decide +kernel)) (hts (.instanceMethod yX1_init) (by decide +kernel)) rfl (by decide +kernel) ⟨Nat.le_of_ble_eq_true rfl, Nat.le_of_ble_eq_true rfl⟩) (pr_S (ws := [(q_8, .inr (1, [.int 0, .null, .null, .null, .null, .null]))]) (wA := [(q_8, .inr (1, [.int 0, .null, .null, .null, .null, .null]))]) (tys := [(kJ, .long)]) (hP.sub [0] rfl) (hK.sub [2] rfl) hDt hst hS hFc) rfl rfl hl.1 rfl (lv_room (Nat.le_of_ble_eq_true rfl)) dX2_make_40 ⟨(Nat.le_of_ble_eq_true rfl), (Nat.le_of_ble_eq_true rfl)⟩) hS (fun q _ h => hFc q h) hFc (fun u t H1 locs ht hvm hw hB hz1 hk1 hS => ?_)
          obtain ⟨u_10, eu_10⟩ : ∃ z, z = u := ⟨_, rfl⟩
          subst eu_10
          obtain ⟨hP1, hD1⟩ := hB
          rw [ht] at hP1
          obtain ⟨hP, hD⟩ := va_joinQ (X := [(q_8, .inr (1, [.int 0, .null, .null, .null, .null, .null]))]) (cx := [(q_8, .inr (1, [.int 0, .null, .null, .null, .null, .null]))]) (wr := []) (w1 := [(q_8, .inr (1, [.int p1, .ref u_10, .null, .null, .null, .null])), (u_10, .inl (kJ, 17, .inr (.inl (ks_vals p1 p2))))]) (pl := va_pl L f) hP hD [0] [] rfl rfl (by decide) (by decide) hk1 hFc hP1 hD1
          generalize H1 = H at hP hS ⊢
          refine W.widen (k := 2) (n := 23) (by omega) (by omega) ?_
          obtain ⟨K_12, L_13, f_11, hPI, hE, fq_14, hsm, hP, hD, hnf_15⟩ := fold2x hPI hP hD
          have eq_16 := (hsm h0 hh0.1).trans e_7
          have fe_17 := fq1_7.ext hE
          have fe_18 := hh0.ext hE
          have hE0 := hE
          have fe_19 := hh0.ext hE
          have fe_20 := fq1_7.ext hE
          have fe_21 := fc1_7.ext hE
          have fe_22 := fc2_7.ext hE
          have fe_23 := fc3_7.ext hE
          have fe_24 := fq5_7.ext hE
          have fe_25 := fq7_7.ext hE
          obtain ⟨g_26, e_26, fg_26⟩ := hPI.a5 fe_17
          obtain ⟨k_26, hk_26⟩ := va_plg fe_17.1 e_26
          have h_26 : vp_in p0 12 := (vp_in_iff.mpr (by constructor <;> omega))
          obtain ⟨cn_27, v_27, b_27, m_27, st_27, i_27, e_27, fv_27, fb_27, fm_27, fst_27, fi_27⟩ := hPI.a1 fq_14
          obtain ⟨k_27, hk_27⟩ := va_plg fq_14.1 e_27
          have hD9 := hD
          refine va_astq hx hb hK hP hD hS k_26 0 k_27 1 hk_26 rfl hk_27 rfl h_26 dX2_make_43 (fun H locs hP hD hS => ?_)
          have fg2_26 := upr_all (k := Int32.toNatClampNeg p0) (o := (some q_8)) fg_26 (fun _ h9 => by cases h9; exact fq_14)
          have hP : va_P (dC, dI) vwCl (va_pl L_13 (va_up f_11 q1_7 (.inl (kT, 12, .inr (.inr (.inr (.inr (va_up g_26 (Int32.toNatClampNeg p0) (some q_8))))))))) H := by rw [← va_pls hD9 fe_17.1 hk_26 _]; exact hP
          have hD : va_D A (va_pl L_13 (va_up f_11 q1_7 (.inl (kT, 12, .inr (.inr (.inr (.inr (va_up g_26 (Int32.toNatClampNeg p0) (some q_8))))))))) := by rw [← va_pls hD9 fe_17.1 hk_26 _]; exact hD
          have hPI := hPI.put (e := .inl (kT, 12, .inr (.inr (.inr (.inr (va_up g_26 (Int32.toNatClampNeg p0) (some q_8))))))) fe_17 ⟨_, rfl, fg2_26⟩
          have es_f_28 : va_up f_11 q1_7 (.inl (kT, 12, .inr (.inr (.inr (.inr (va_up g_26 (Int32.toNatClampNeg p0) (some q_8))))))) q1_7 = .inl (kT, 12, .inr (.inr (.inr (.inr (va_up g_26 (Int32.toNatClampNeg p0) (some q_8)))))) := va_up_self _ _ _
          have eq_29 := (va_up_ne f_11 (.inl (kT, 12, .inr (.inr (.inr (.inr (va_up g_26 (Int32.toNatClampNeg p0) (some q_8))))))) (isr_ne fe_19 fe_17 (by decide))).trans eq_16
          have eq_30 := (va_up_ne f_11 (.inl (kT, 12, .inr (.inr (.inr (.inr (va_up g_26 (Int32.toNatClampNeg p0) (some q_8))))))) (isr_ne fq_14 fe_17 (by decide))).trans e_27
          generalize hg_f_28 : va_up f_11 q1_7 (.inl (kT, 12, .inr (.inr (.inr (.inr (va_up g_26 (Int32.toNatClampNeg p0) (some q_8))))))) = f_28 at hP hD hPI es_f_28 eq_29 eq_30
          refine lv_iconst (v := 1) hx hb dX2_make_44 (by decide) ?_
          refine W.widen (k := 2) (n := 23) (by omega) (by omega) ?_
          exact W.iret (v := 1) hx hb hr (fun t ht hW => ⟨⟨1, (), rfl, (show 1 = sp_make p0 p1 p2 from by unfold sp_make; (repeat' split) <;> first | rfl | (exfalso; omega)), K_12, L_13, f_28, hPI, hE0, Or.inr ⟨by omega, q_8, u_10, ⟨hnf_15.1, hnf_15.2.1, hnf_15.2.2.1, hnf_15.2.2.2.1, hnf_15.2.2.2.2.1⟩, by rw [← hnf_15.2.2.2.2.2, ob_q1 e_7, s_R_of e_26]; exact hg_f_28.symm⟩, by rw [ht]; exact hP, hD⟩, hS.F ht⟩) hS.2.2 dX2_make_45
        · refine lv_if_ne (tgt := 29) hx hb dX2_make_23 (by decide) (fun c9 => absurd c9 (by decide)) (fun _ => ?_)
          refine lv_bipush (v := (-18)) hx hb dX2_make_26 (by decide) ?_
          refine W.widen (k := 2) (n := 23) (by omega) (by omega) ?_
          exact W.iret (v := (-18)) hx hb hr (fun t ht hW => ⟨⟨(-18), (), rfl, (show (-18) = sp_make p0 p1 p2 from by unfold sp_make; (repeat' split) <;> first | rfl | (exfalso; omega)), K, L, f, hPI, EXT.rf, Or.inl ⟨by omega, rfl, rfl, rfl⟩, by rw [ht]; exact hP, hD⟩, hS.F ht⟩) hS.2.2 dX2_make_28
      · have c_4 := mt Int32.le_iff_toInt_le.mpr c_4
        refine lv_iconst (v := (-1)) hx hb dX2_make_16 (by decide) ?_
        refine W.widen (k := 2) (n := 23) (by omega) (by omega) ?_
        exact W.iret (v := (-1)) hx hb hr (fun t ht hW => ⟨⟨(-1), (), rfl, (show (-1) = sp_make p0 p1 p2 from by unfold sp_make; (repeat' split) <;> first | rfl | (exfalso; omega)), K, L, f, hPI, EXT.rf, Or.inl ⟨by omega, rfl, rfl, rfl⟩, by rw [ht]; exact hP, hD⟩, hS.F ht⟩) hS.2.2 dX2_make_17
  · refine lv_if_eq (tgt := 16) hx hb dX2_make_4 (by decide) (fun _ => ?_) (fun c9 => absurd c9 (by decide))
    refine lv_iconst (v := (-1)) hx hb dX2_make_16 (by decide) ?_
    refine W.widen (k := 2) (n := 23) (by omega) (by omega) ?_
    exact W.iret (v := (-1)) hx hb hr (fun t ht hW => ⟨⟨(-1), (), rfl, (show (-1) = sp_make p0 p1 p2 from by unfold sp_make; (repeat' split) <;> first | rfl | (exfalso; omega)), K, L, f, hPI, EXT.rf, Or.inl ⟨by omega, rfl, rfl, rfl⟩, by rw [ht]; exact hP, hD⟩, hS.F ht⟩) hS.2.2 dX2_make_17
set_option maxRecDepth 20000 in
theorem in_u_X2_row_X1 : ∀ w ∈ u_ws RX1 TX1 6, w ∈ wsX2_row := by decide +kernel
set_option maxRecDepth 20000 in
theorem in_u_X2_row_X2 : ∀ w ∈ u_ws RX2 TX2 9, w ∈ wsX2_row := by decide +kernel
set_option maxRecDepth 100000 in
set_option maxHeartbeats 4000000 in
theorem u_X2_row (l : Launch) (dC : Nat → ClassId) (dI : Nat → Nat → Nat) (TT : Nat × Nat × Nat) (sz : Nat) (kT kI kJ : ClassId) (K : Nat → Nat) (L : List Nat) (f : Nat → va_E) (hPI : PI kT kI kJ K L f) (h0 : Nat) (hh0 : isr K L 2 h0) (p0 : Int32) (p1 : Int32) : Met l yX2_row wsX2_row ({ frames := 1, cells := 1, slots := 20, locals := 21 } : Room) (va_Pc [.ref h0, .int p0, .int p1] (pr dC dI (va_pl L f) (va_pl L f) [(kT, .object RX1), (kI, .int), (kJ, .long)] sz TT)) (va_Qi (fun (r : Int32) (u : Unit) => r = ks_rw (g_sl f h0) (g_cn f) p0 p1) (fun (_ : Unit) t => ∃ (K2 : Nat → Nat) (L2 : List Nat) (f2 : Nat → va_E), PI kT kI kJ K2 L2 f2 ∧ EXT K L K2 L2 ∧ (ks_rwh kI K L f h0 p0 p1 K2 L2 f2) ∧ va_P (dC, dI) vwCl (va_pl L2 f2) t.heap ∧ va_D (va_A (va_pl L f) sz) (va_pl L2 f2)) (va_A (va_pl L f) sz)) 1 20 (va_A (va_pl L f) sz) := by
  refine Met.ofW (cc := cX2_row) (maxL := 4) (ret := (some .int)) (by decide) rfl ?_
  intro p e s m args below meth c s₁ B hml hv
  obtain ⟨rfl, hsz, hP, hK, hD0, hst⟩ := hv
  have hx := B.exec
  have hb := B.bytes
  have hr := B.returns
  have hts := atoms_spec (ws := wsX2_row) B.pre
  have hown : s.vm.findClass RX2 = some m.cls := findClass_of_methodNamed B.named
  have hlocks := B.notSynchronized
  have iX1_ := in_u_X2_row_X1
  have iX2_ := in_u_X2_row_X2
  subst hsz
  have hD := hD0.self (sz := s.heap.size)
  generalize hAe : va_A (va_pl L f) s.heap.size = A at hD hst ⊢
  have hA : ∀ q : Nat, s.heap.size ≤ q → A q := fun q h => by rw [← hAe]; exact Or.inr h
  have hS : va_S A s.heap s.heap [] := va_S.rf
  have hl := lv_entry ([.ref h0, .int p0, .int p1]) (n := 4) (Nat.le_of_ble_eq_true rfl)
  rw [lg_entry_eq]
  generalize (lg_sl ([.ref h0, .int p0, .int p1]) ++ List.replicate (4 - (lg_sl ([.ref h0, .int p0, .int p1])).length) Slot.unset).toArray = ls at hl ⊢
  have hl : lv_has ls 4 [(0, .ref h0), (1, .int p0), (2, .int p1)] := hl
  have km14_ : Int32.toInt (-14) = -14 := by decide
  have km13_ : Int32.toInt (-13) = -13 := by decide
  have km11_ : Int32.toInt (-11) = -11 := by decide
  have km4_ : Int32.toInt (-4) = -4 := by decide
  have km1_ : Int32.toInt (-1) = -1 := by decide
  have k0_ : Int32.toInt 0 = 0 := by decide
  have k20_ : Int32.toInt 20 = 20 := by decide
  refine lv_iload_n hx hb dX2_row_0 rfl (lv_at hl 1 rfl) ?_
  refine va_calli (va_runS (As := [.int p0]) (rest := []) ⟨hx, hb, hml, hown, hts⟩ (c_X2_isSlot l dC dI TT s.heap.size p0) (va_cwS 1 hts gX2_row_X2_isSlot rfl rfl rfl (by decide +kernel) ⟨Nat.le_of_ble_eq_true rfl, Nat.le_of_ble_eq_true rfl⟩) (pr_S (ws := []) (wA := []) (tys := []) vp_nil (hK.sub [] rfl) vd_nil hst hS (ro_free hS hA)) rfl rfl hl.1 rfl (lv_room (Nat.le_of_ble_eq_true rfl)) dX2_row_1 ⟨Nat.le_of_ble_eq_true rfl, Nat.le_of_ble_eq_true rfl⟩) hS (fun q _ h => (ro_free hS hA) q h) (ro_free hS hA) (fun r_1 u t H1 locs ht hvm hw hB hz1 hk1 hS => ?_)
  have hP := ro_keep hP hk1
  generalize H1 = H at hP hS ⊢
  rcases hw with ⟨rfl, hp_2⟩ | ⟨rfl, hp_2⟩
  · refine lv_if_eq (tgt := 13) hx hb dX2_row_4 (by decide) (fun c9 => absurd c9 (by decide)) (fun _ => ?_)
    refine lv_iload_n hx hb dX2_row_7 rfl (lv_at hl 2 rfl) ?_
    refine lv_bipush (v := 20) hx hb dX2_row_8 (by decide) ?_
    refine lv_icmp_le (tgt := 15) hx hb dX2_row_10 (by decide) (fun c_3 => ?_) (fun c_3 => ?_)
    · have c_3 := Int32.le_iff_toInt_le.mp c_3
      refine lv_aload_n hx hb dX2_row_15 rfl (lv_at hl 0 rfl) ?_
      obtain ⟨q1_4, pc_4, c1_4, c2_4, c3_4, q5_4, fc_4, q7_4, mc_4, e_4, fq1_4, fc1_4, fc2_4, fc3_4, fq5_4, ffc_4, fq7_4, fmc_4⟩ := hPI.a2 hh0
      obtain ⟨k_4, hk_4⟩ := va_plg hh0.1 e_4
      refine va_get (D := (dC, dI)) (ci := 2) (v := .ref q1_4) (C := RX2) (T := TX2) (N := 9) hx hb hts iX2_ hown hK hP k_4 hk_4 rfl 0 (by decide) (hts (.fieldLink RX2 11 "FieldLeaves" "slots" "[LFieldLeaves$Thing;") (by decide +kernel)) (fun _ h9 => h9) rfl dX2_row_16 ?_
      refine lv_iload_n hx hb dX2_row_19 rfl (lv_at hl 1 rfl) ?_
      obtain ⟨g_5, e_5, fg_5⟩ := hPI.a5 fq1_4
      obtain ⟨k_5, hk_5⟩ := va_plg fq1_4.1 e_5
      have h_5 : vp_in p0 12 := (vp_in_iff.mpr (by constructor <;> omega))
      refine va_aldq hx hb hK hP k_5 0 hk_5 rfl h_5 dX2_row_20 ?_
      have fo_5 := fg_5 _ (vp_lt h_5)
      generalize eo_5 : g_5 (Int32.toNatClampNeg p0) = o_5 at fo_5 ⊢
      rcases o_5 with _ | y_6
      · refine W.eq (g2 := F0 m 21 ls [.null]) rfl ?_
        refine lv_astore_nN (lv' := [(3, .null), (0, .ref h0), (1, .int p0), (2, .int p1)]) hx hb dX2_row_21 rfl hl (by decide) rfl (fun ls hl => ?_)
        refine lv_aload_nN hx hb dX2_row_22 rfl (lv_at hl 0 rfl) ?_
        refine lv_ifnullN (tgt := 37) hx hb dX2_row_23 (by decide) ?_
        refine lv_iload_n hx hb dX2_row_37 rfl (lv_at hl 3 rfl) ?_
        refine lv_if_ge (tgt := 50) hx hb dX2_row_38 (by decide) (fun c_7 => ?_) (fun c_7 => ?_)
        · have c_7 := Int32.le_iff_toInt_le.mp c_7
          refine lv_aload_nN hx hb dX2_row_50 rfl (lv_at hl 0 rfl) ?_
          refine lv_ifnonnullN hx hb dX2_row_51 ?_
          refine lv_bipush (v := (-11)) hx hb dX2_row_54 (by decide) ?_
          refine W.widen (k := 1) (n := 20) (by omega) (by omega) ?_
          exact W.iret (v := (-11)) hx hb hr (fun t ht hW => ⟨⟨(-11), (), rfl, (by first | (simp only [ks_rw, ob_q1 e_4, ob_pc e_4, ob_c1 e_4, ob_c2 e_4, ob_c3 e_4, ob_q5 e_4, ob_fc e_4, ob_q7 e_4, ob_mc e_4, ob_sl e_4 e_5, eo_5, cl_0, cl_1, cl_2, cl_4, cl_10, cl_13, cl_16]; done) | (simp only [ks_rw, ob_q1 e_4, ob_pc e_4, ob_c1 e_4, ob_c2 e_4, ob_c3 e_4, ob_q5 e_4, ob_fc e_4, ob_q7 e_4, ob_mc e_4, ob_sl e_4 e_5, eo_5, cl_0, cl_1, cl_2, cl_4, cl_10, cl_13, cl_16] <;> (repeat' split) <;> first | rfl | (exfalso; omega) | contradiction | (simp only [ks_rw, ob_q1 e_4, ob_pc e_4, ob_c1 e_4, ob_c2 e_4, ob_c3 e_4, ob_q5 e_4, ob_fc e_4, ob_q7 e_4, ob_mc e_4, ob_sl e_4 e_5, eo_5, cl_0, cl_1, cl_2, cl_4, cl_10, cl_13, cl_16]; done) | (simp_all; done) | (simp_all; simp only [ks_rw, ob_q1 e_4, ob_pc e_4, ob_c1 e_4, ob_c2 e_4, ob_c3 e_4, ob_q5 e_4, ob_fc e_4, ob_q7 e_4, ob_mc e_4, ob_sl e_4 e_5, eo_5, cl_0, cl_1, cl_2, cl_4, cl_10, cl_13, cl_16]))), K, L, f, hPI, EXT.rf, Or.inl ⟨(fun x h1 h2 h3 h4 => by rw [ob_sl e_4 e_5, eo_5] at h2; (cases h2)), rfl, rfl, rfl⟩, by rw [ht]; exact hP, hD⟩, hS.F ht⟩) hS.2.2 dX2_row_56
        · have c_7 := mt Int32.le_iff_toInt_le.mpr c_7
          refine lv_iload_n hx hb dX2_row_41 rfl (lv_at hl 3 rfl) ?_
          refine lv_bipush (v := (-4)) hx hb dX2_row_42 (by decide) ?_
          refine lv_icmp_eq (tgt := 50) hx hb dX2_row_44 (by decide) (fun c_8 => ?_) (fun c_8 => ?_)
          · have c_8 := congrArg Int32.toInt c_8
            refine lv_aload_nN hx hb dX2_row_50 rfl (lv_at hl 0 rfl) ?_
            refine lv_ifnonnullN hx hb dX2_row_51 ?_
            refine lv_bipush (v := (-11)) hx hb dX2_row_54 (by decide) ?_
            refine W.widen (k := 1) (n := 20) (by omega) (by omega) ?_
            exact W.iret (v := (-11)) hx hb hr (fun t ht hW => ⟨⟨(-11), (), rfl, (by first | (simp only [ks_rw, ob_q1 e_4, ob_pc e_4, ob_c1 e_4, ob_c2 e_4, ob_c3 e_4, ob_q5 e_4, ob_fc e_4, ob_q7 e_4, ob_mc e_4, ob_sl e_4 e_5, eo_5, cl_0, cl_1, cl_2, cl_4, cl_10, cl_13, cl_16]; done) | (simp only [ks_rw, ob_q1 e_4, ob_pc e_4, ob_c1 e_4, ob_c2 e_4, ob_c3 e_4, ob_q5 e_4, ob_fc e_4, ob_q7 e_4, ob_mc e_4, ob_sl e_4 e_5, eo_5, cl_0, cl_1, cl_2, cl_4, cl_10, cl_13, cl_16] <;> (repeat' split) <;> first | rfl | (exfalso; omega) | contradiction | (simp only [ks_rw, ob_q1 e_4, ob_pc e_4, ob_c1 e_4, ob_c2 e_4, ob_c3 e_4, ob_q5 e_4, ob_fc e_4, ob_q7 e_4, ob_mc e_4, ob_sl e_4 e_5, eo_5, cl_0, cl_1, cl_2, cl_4, cl_10, cl_13, cl_16]; done) | (simp_all; done) | (simp_all; simp only [ks_rw, ob_q1 e_4, ob_pc e_4, ob_c1 e_4, ob_c2 e_4, ob_c3 e_4, ob_q5 e_4, ob_fc e_4, ob_q7 e_4, ob_mc e_4, ob_sl e_4 e_5, eo_5, cl_0, cl_1, cl_2, cl_4, cl_10, cl_13, cl_16]))), K, L, f, hPI, EXT.rf, Or.inl ⟨(fun x h1 h2 h3 h4 => by rw [ob_sl e_4 e_5, eo_5] at h2; (cases h2)), rfl, rfl, rfl⟩, by rw [ht]; exact hP, hD⟩, hS.F ht⟩) hS.2.2 dX2_row_56
          · have c_8 := mt Int32.toInt_inj.mp c_8
            refine lv_bipush (v := (-13)) hx hb dX2_row_47 (by decide) ?_
            refine W.widen (k := 1) (n := 20) (by omega) (by omega) ?_
            exact W.iret (v := (-13)) hx hb hr (fun t ht hW => ⟨⟨(-13), (), rfl, (by first | (simp only [ks_rw, ob_q1 e_4, ob_pc e_4, ob_c1 e_4, ob_c2 e_4, ob_c3 e_4, ob_q5 e_4, ob_fc e_4, ob_q7 e_4, ob_mc e_4, ob_sl e_4 e_5, eo_5, cl_0, cl_1, cl_2, cl_4, cl_10, cl_13, cl_16]; done) | (simp only [ks_rw, ob_q1 e_4, ob_pc e_4, ob_c1 e_4, ob_c2 e_4, ob_c3 e_4, ob_q5 e_4, ob_fc e_4, ob_q7 e_4, ob_mc e_4, ob_sl e_4 e_5, eo_5, cl_0, cl_1, cl_2, cl_4, cl_10, cl_13, cl_16] <;> (repeat' split) <;> first | rfl | (exfalso; omega) | contradiction | (simp only [ks_rw, ob_q1 e_4, ob_pc e_4, ob_c1 e_4, ob_c2 e_4, ob_c3 e_4, ob_q5 e_4, ob_fc e_4, ob_q7 e_4, ob_mc e_4, ob_sl e_4 e_5, eo_5, cl_0, cl_1, cl_2, cl_4, cl_10, cl_13, cl_16]; done) | (simp_all; done) | (simp_all; simp only [ks_rw, ob_q1 e_4, ob_pc e_4, ob_c1 e_4, ob_c2 e_4, ob_c3 e_4, ob_q5 e_4, ob_fc e_4, ob_q7 e_4, ob_mc e_4, ob_sl e_4 e_5, eo_5, cl_0, cl_1, cl_2, cl_4, cl_10, cl_13, cl_16]))), K, L, f, hPI, EXT.rf, Or.inl ⟨(fun x h1 h2 h3 h4 => by rw [ob_sl e_4 e_5, eo_5] at h2; (cases h2)), rfl, rfl, rfl⟩, by rw [ht]; exact hP, hD⟩, hS.F ht⟩) hS.2.2 dX2_row_49
      · have fy_6 := fo_5 y_6 rfl
        refine W.eq (g2 := F0 m 21 ls [.ref y_6]) rfl ?_
        refine lv_astore_n (lv' := [(3, .ref y_6), (0, .ref h0), (1, .int p0), (2, .int p1)]) hx hb dX2_row_21 rfl hl (by decide) rfl (fun ls hl => ?_)
        refine lv_aload_n hx hb dX2_row_22 rfl (lv_at hl 0 rfl) ?_
        refine lv_ifnull hx hb dX2_row_23 ?_
        refine lv_aload_n hx hb dX2_row_26 rfl (lv_at hl 0 rfl) ?_
        refine lv_iconst (v := 0) hx hb dX2_row_27 (by decide) ?_
        obtain ⟨cn_9, v_9, b_9, m_9, st_9, i_9, e_9, fv_9, fb_9, fm_9, fst_9, fi_9⟩ := hPI.a1 fy_6
        obtain ⟨k_9, hk_9⟩ := va_plg fy_6.1 e_9
        refine va_calli (va_runV (b := y_6) (As := [.int 0]) (rest := []) ⟨hx, hb, hml, hown, hts⟩ (u_X1_isOf l dC dI TT H.size kT kI kJ K L f hPI y_6 fy_6 0) (cwV 1 hts gX2_row_X1_isOf rfl rfl rfl (by decide +kernel) ⟨Nat.le_of_ble_eq_true rfl, Nat.le_of_ble_eq_true rfl⟩) ⟨pr_blind, va_recv hK hP (ci := 1) rfl hk_9, (pr_S (ws := va_pl L f) (wA := []) (tys := [(kT, .object RX1), (kI, .int), (kJ, .long)]) hP hK vd_nil hst hS (ro_free hS hA)).2⟩ rfl rfl hl.1 rfl (lv_room (Nat.le_of_ble_eq_true rfl)) dX2_row_28 ⟨Nat.le_of_ble_eq_true rfl, Nat.le_of_ble_eq_true rfl⟩) hS (fun q _ h => (ro_free hS hA) q h) (ro_free hS hA) (fun r_10 u t H1 locs ht hvm hw hB hz1 hk1 hS => ?_)
        have hP := ro_keep hP hk1
        generalize H1 = H at hP hS ⊢
        rcases hw with ⟨rfl, hp_11⟩ | ⟨rfl, hp_11⟩
        · refine lv_if_ne (tgt := 37) hx hb dX2_row_31 (by decide) (fun _ => ?_) (fun c9 => absurd c9 (by decide))
          refine lv_iload_n hx hb dX2_row_37 rfl (lv_at hl 3 rfl) ?_
          refine lv_if_ge (tgt := 50) hx hb dX2_row_38 (by decide) (fun c_12 => ?_) (fun c_12 => ?_)
          · have c_12 := Int32.le_iff_toInt_le.mp c_12
            refine lv_aload_n hx hb dX2_row_50 rfl (lv_at hl 0 rfl) ?_
            refine lv_ifnonnull (tgt := 57) hx hb dX2_row_51 (by decide) ?_
            refine lv_aload_n hx hb dX2_row_57 rfl (lv_at hl 0 rfl) ?_
            refine lv_iload_n hx hb dX2_row_58 rfl (lv_at hl 3 rfl) ?_
            refine lv_bipush (v := (-4)) hx hb dX2_row_59 (by decide) ?_
            refine lv_icmp_ne (tgt := 68) hx hb dX2_row_61 (by decide) (fun c_13 => ?_) (fun c_13 => ?_)
            · have c_13 := mt Int32.toInt_inj.mp c_13
              refine lv_iload_n hx hb dX2_row_68 rfl (lv_at hl 3 rfl) ?_
              have hn_15 : ¬ p1 < 0 := mt Int32.lt_iff_toInt_lt.mp (by omega)
              obtain ⟨j_15, hj_15, ej_15⟩ := nI_of2 (M := 20) (n := 20) (by decide) hn_15 (Int32.le_iff_toInt_le.mpr (by omega))
              refine va_newa (a0 := (j_15, .inl (fun _ => 0))) (N' := j_15) (atype := .int) (ty := .int) hx hb (hts (.arrayClass .int) (by decide +kernel)) rfl hK hP hD hS hA (newI j_15) hn_15 (by rw [ej_15]; exact nI_clamp (by omega)) (by show j_15 * 4 ≤ 536870912; omega) (Nat.le_of_ble_eq_true rfl) (Nat.le_trans (show 0 + j_15 ≤ 0 + 20 by omega) (Nat.le_of_ble_eq_true rfl)) dX2_row_69 (fun q_14 cA_15 H hK9 hP hD hS => ?_)
              obtain rfl : kI = cA_15 := ty_one hK9 1 3 rfl rfl (Or.inl rfl)
              refine W.widen (k := 1) (n := 20) (by omega) (by omega) ?_
              obtain ⟨K_17, L_18, f_16, hPI, hE, fq_19, hsm, hP, hD, hnf_15⟩ := fold1x hPI hj_15 hP hD
              have eq_20 := (hsm h0 hh0.1).trans e_4
              have eq_21 := (hsm y_6 fy_6.1).trans e_9
              have eq_22 := (hsm q1_4 fq1_4.1).trans e_5
              have fe_23 := fy_6.ext hE
              have fe_24 := fy_6.ext hE
              have fe_25 := hh0.ext hE
              have hE0 := hE
              have fe_26 := hh0.ext hE
              have fe_27 := fq1_4.ext hE
              have fe_28 := fy_6.ext hE
              have fe_29 := fq1_4.ext hE
              have fe_30 := fc1_4.ext hE
              have fe_31 := fc2_4.ext hE
              have fe_32 := fc3_4.ext hE
              have fe_33 := fq5_4.ext hE
              have fe_34 := fq7_4.ext hE
              have fe_35 := fv_9.ext hE
              have fe_36 := fb_9.ext hE
              have fe_37 := fm_9.ext hE
              have fe_38 := fst_9.ext hE
              have fe_39 := fi_9.ext hE
              have fe_40 := fun j hj => (fg_5 j hj).ext hE
              obtain ⟨k_41, hk_41⟩ := va_plg fe_23.1 eq_21
              have hD9 := hD
              refine va_put (D := (dC, dI)) (ci := 1) (v := .ref q_14) (ty := .array .int) (C := RX1) (T := TX1) (N := 6) hx hb hts iX1_ tyX1 tyX1_ok nmX1 hown hK hP hD hS k_41 hk_41 rfl 5 (by decide) (hts (.fieldLink RX2 91 "FieldLeaves$Thing" "ints" "[I") (by decide +kernel)) (fun _ h9 => h9) rfl (by decide +kernel) rfl rfl (Nat.le_of_ble_eq_true rfl) dX2_row_71 (fun H locs hP hD hS => ?_)
              have op_42 : opr K_17 L_18 4 (some q_14) := fun _ h9 => by cases h9; exact fq_19
              have hP : va_P (dC, dI) vwCl (va_pl L_18 (va_up f_16 y_6 (.inr (1, [.int cn_9, .ref v_9, va_rf b_9, va_rf m_9, va_rf st_9, va_rf (some q_14)])))) H := by rw [← va_pls hD9 fe_23.1 hk_41 _]; exact hP
              have hD : va_D A (va_pl L_18 (va_up f_16 y_6 (.inr (1, [.int cn_9, .ref v_9, va_rf b_9, va_rf m_9, va_rf st_9, va_rf (some q_14)])))) := by rw [← va_pls hD9 fe_23.1 hk_41 _]; exact hD
              have hPI := hPI.put (e := .inr (1, [.int cn_9, .ref v_9, va_rf b_9, va_rf m_9, va_rf st_9, va_rf (some q_14)])) fe_23 ⟨cn_9, v_9, b_9, m_9, st_9, (some q_14), rfl, fe_35, fe_36, fe_37, fe_38, op_42⟩
              have es_f_43 : va_up f_16 y_6 (.inr (1, [.int cn_9, .ref v_9, va_rf b_9, va_rf m_9, va_rf st_9, va_rf (some q_14)])) y_6 = .inr (1, [.int cn_9, .ref v_9, va_rf b_9, va_rf m_9, va_rf st_9, va_rf (some q_14)]) := va_up_self _ _ _
              have eq_44 := (va_up_ne f_16 (.inr (1, [.int cn_9, .ref v_9, va_rf b_9, va_rf m_9, va_rf st_9, va_rf (some q_14)])) (isr_ne fe_26 fe_23 (by decide))).trans eq_20
              have eq_45 := (va_up_ne f_16 (.inr (1, [.int cn_9, .ref v_9, va_rf b_9, va_rf m_9, va_rf st_9, va_rf (some q_14)])) (isr_ne fe_27 fe_23 (by decide))).trans eq_22
              generalize hg_f_43 : va_up f_16 y_6 (.inr (1, [.int cn_9, .ref v_9, va_rf b_9, va_rf m_9, va_rf st_9, va_rf (some q_14)])) = f_43 at hP hD hPI es_f_43 eq_44 eq_45
              refine lv_iload_n hx hb dX2_row_74 rfl (lv_at hl 3 rfl) ?_
              refine W.widen (k := 1) (n := 20) (by omega) (by omega) ?_
              exact W.iret (v := p1) hx hb hr (fun t ht hW => ⟨⟨p1, (), rfl, (by have hc2 := congrArg Int32.toInt (th_cn e_9); have hc4 := congrArg Int32.toInt (th_cn es_f_43); first | (simp only [ks_rw, ob_q1 e_4, ob_pc e_4, ob_c1 e_4, ob_c2 e_4, ob_c3 e_4, ob_q5 e_4, ob_fc e_4, ob_q7 e_4, ob_mc e_4, ob_sl e_4 e_5, th_cn e_9, th_pv e_9, th_b e_9, th_m e_9, th_s e_9, th_lk e_9, ob_q1 eq_44, ob_pc eq_44, ob_c1 eq_44, ob_c2 eq_44, ob_c3 eq_44, ob_q5 eq_44, ob_fc eq_44, ob_q7 eq_44, ob_mc eq_44, ob_sl eq_44 eq_45, th_cn es_f_43, th_pv es_f_43, th_b es_f_43, th_m es_f_43, th_s es_f_43, th_lk es_f_43, th_pi es_f_43, eo_5, cl_0, cl_1, cl_2, cl_4, cl_10, cl_13, cl_16]; done) | (simp only [ks_rw, ob_q1 e_4, ob_pc e_4, ob_c1 e_4, ob_c2 e_4, ob_c3 e_4, ob_q5 e_4, ob_fc e_4, ob_q7 e_4, ob_mc e_4, ob_sl e_4 e_5, th_cn e_9, th_pv e_9, th_b e_9, th_m e_9, th_s e_9, th_lk e_9, ob_q1 eq_44, ob_pc eq_44, ob_c1 eq_44, ob_c2 eq_44, ob_c3 eq_44, ob_q5 eq_44, ob_fc eq_44, ob_q7 eq_44, ob_mc eq_44, ob_sl eq_44 eq_45, th_cn es_f_43, th_pv es_f_43, th_b es_f_43, th_m es_f_43, th_s es_f_43, th_lk es_f_43, th_pi es_f_43, eo_5, cl_0, cl_1, cl_2, cl_4, cl_10, cl_13, cl_16] <;> (repeat' split) <;> first | rfl | (exfalso; omega) | contradiction | (simp only [ks_rw, ob_q1 e_4, ob_pc e_4, ob_c1 e_4, ob_c2 e_4, ob_c3 e_4, ob_q5 e_4, ob_fc e_4, ob_q7 e_4, ob_mc e_4, ob_sl e_4 e_5, th_cn e_9, th_pv e_9, th_b e_9, th_m e_9, th_s e_9, th_lk e_9, ob_q1 eq_44, ob_pc eq_44, ob_c1 eq_44, ob_c2 eq_44, ob_c3 eq_44, ob_q5 eq_44, ob_fc eq_44, ob_q7 eq_44, ob_mc eq_44, ob_sl eq_44 eq_45, th_cn es_f_43, th_pv es_f_43, th_b es_f_43, th_m es_f_43, th_s es_f_43, th_lk es_f_43, th_pi es_f_43, eo_5, cl_0, cl_1, cl_2, cl_4, cl_10, cl_13, cl_16]; done) | (simp_all; done) | (simp_all; simp only [ks_rw, ob_q1 e_4, ob_pc e_4, ob_c1 e_4, ob_c2 e_4, ob_c3 e_4, ob_q5 e_4, ob_fc e_4, ob_q7 e_4, ob_mc e_4, ob_sl e_4 e_5, th_cn e_9, th_pv e_9, th_b e_9, th_m e_9, th_s e_9, th_lk e_9, ob_q1 eq_44, ob_pc eq_44, ob_c1 eq_44, ob_c2 eq_44, ob_c3 eq_44, ob_q5 eq_44, ob_fc eq_44, ob_q7 eq_44, ob_mc eq_44, ob_sl eq_44 eq_45, th_cn es_f_43, th_pv es_f_43, th_b es_f_43, th_m es_f_43, th_s es_f_43, th_lk es_f_43, th_pi es_f_43, eo_5, cl_0, cl_1, cl_2, cl_4, cl_10, cl_13, cl_16]))), K_17, L_18, f_43, hPI, hE0, Or.inr ⟨y_6, ⟨by omega, by rw [ob_sl e_4 e_5]; exact eo_5, by omega, by omega⟩, Or.inr ⟨by omega, q_14, ⟨hnf_15.1, hnf_15.2.1, hnf_15.2.2.1⟩, by rw [show Int32.toNatClampNeg p1 = j_15 from by rw [ej_15]; exact nI_clamp (by omega), ← hnf_15.2.2.2]; subst hg_f_43; simp only [s_F_of eq_21, List.set_cons_succ, List.set_cons_zero]⟩⟩, by rw [ht]; exact hP, hD⟩, hS.F ht⟩) hS.2.2 dX2_row_75
            · have c_13 := congrArg Int32.toInt c_13
              refine lv_null hx hb dX2_row_64 ?_
              refine lv_goto (tgt := 71) hx hb dX2_row_65 (by decide) ?_
              obtain ⟨k_46, hk_46⟩ := va_plg fy_6.1 e_9
              have hD9 := hD
              refine va_put (D := (dC, dI)) (ci := 1) (v := .null) (ty := .array .int) (C := RX1) (T := TX1) (N := 6) hx hb hts iX1_ tyX1 tyX1_ok nmX1 hown hK hP hD hS k_46 hk_46 rfl 5 (by decide) (hts (.fieldLink RX2 91 "FieldLeaves$Thing" "ints" "[I") (by decide +kernel)) (fun _ h9 => h9) rfl (by decide +kernel) rfl rfl (Nat.le_of_ble_eq_true rfl) dX2_row_71 (fun H locs hP hD hS => ?_)
              have op_47 : opr K L 4 none := fun _ h9 => by cases h9
              have hP : va_P (dC, dI) vwCl (va_pl L (va_up f y_6 (.inr (1, [.int cn_9, .ref v_9, va_rf b_9, va_rf m_9, va_rf st_9, va_rf none])))) H := by rw [← va_pls hD9 fy_6.1 hk_46 _]; exact hP
              have hD : va_D A (va_pl L (va_up f y_6 (.inr (1, [.int cn_9, .ref v_9, va_rf b_9, va_rf m_9, va_rf st_9, va_rf none])))) := by rw [← va_pls hD9 fy_6.1 hk_46 _]; exact hD
              have hPI := hPI.put (e := .inr (1, [.int cn_9, .ref v_9, va_rf b_9, va_rf m_9, va_rf st_9, va_rf none])) fy_6 ⟨cn_9, v_9, b_9, m_9, st_9, none, rfl, fv_9, fb_9, fm_9, fst_9, op_47⟩
              have es_f_48 : va_up f y_6 (.inr (1, [.int cn_9, .ref v_9, va_rf b_9, va_rf m_9, va_rf st_9, va_rf none])) y_6 = .inr (1, [.int cn_9, .ref v_9, va_rf b_9, va_rf m_9, va_rf st_9, va_rf none]) := va_up_self _ _ _
              have eq_49 := (va_up_ne f (.inr (1, [.int cn_9, .ref v_9, va_rf b_9, va_rf m_9, va_rf st_9, va_rf none])) (isr_ne hh0 fy_6 (by decide))).trans e_4
              have eq_50 := (va_up_ne f (.inr (1, [.int cn_9, .ref v_9, va_rf b_9, va_rf m_9, va_rf st_9, va_rf none])) (isr_ne fq1_4 fy_6 (by decide))).trans e_5
              generalize hg_f_48 : va_up f y_6 (.inr (1, [.int cn_9, .ref v_9, va_rf b_9, va_rf m_9, va_rf st_9, va_rf none])) = f_48 at hP hD hPI es_f_48 eq_49 eq_50
              refine lv_iload_n hx hb dX2_row_74 rfl (lv_at hl 3 rfl) ?_
              refine W.widen (k := 1) (n := 20) (by omega) (by omega) ?_
              exact W.iret (v := p1) hx hb hr (fun t ht hW => ⟨⟨p1, (), rfl, (by have hc2 := congrArg Int32.toInt (th_cn e_9); have hc4 := congrArg Int32.toInt (th_cn es_f_48); first | (simp only [ks_rw, ob_q1 e_4, ob_pc e_4, ob_c1 e_4, ob_c2 e_4, ob_c3 e_4, ob_q5 e_4, ob_fc e_4, ob_q7 e_4, ob_mc e_4, ob_sl e_4 e_5, th_cn e_9, th_pv e_9, th_b e_9, th_m e_9, th_s e_9, th_lk e_9, ob_q1 eq_49, ob_pc eq_49, ob_c1 eq_49, ob_c2 eq_49, ob_c3 eq_49, ob_q5 eq_49, ob_fc eq_49, ob_q7 eq_49, ob_mc eq_49, ob_sl eq_49 eq_50, th_cn es_f_48, th_pv es_f_48, th_b es_f_48, th_m es_f_48, th_s es_f_48, th_lk es_f_48, th_rw0 es_f_48, eo_5, cl_0, cl_1, cl_2, cl_4, cl_10, cl_13, cl_16]; done) | (simp only [ks_rw, ob_q1 e_4, ob_pc e_4, ob_c1 e_4, ob_c2 e_4, ob_c3 e_4, ob_q5 e_4, ob_fc e_4, ob_q7 e_4, ob_mc e_4, ob_sl e_4 e_5, th_cn e_9, th_pv e_9, th_b e_9, th_m e_9, th_s e_9, th_lk e_9, ob_q1 eq_49, ob_pc eq_49, ob_c1 eq_49, ob_c2 eq_49, ob_c3 eq_49, ob_q5 eq_49, ob_fc eq_49, ob_q7 eq_49, ob_mc eq_49, ob_sl eq_49 eq_50, th_cn es_f_48, th_pv es_f_48, th_b es_f_48, th_m es_f_48, th_s es_f_48, th_lk es_f_48, th_rw0 es_f_48, eo_5, cl_0, cl_1, cl_2, cl_4, cl_10, cl_13, cl_16] <;> (repeat' split) <;> first | rfl | (exfalso; omega) | contradiction | (simp only [ks_rw, ob_q1 e_4, ob_pc e_4, ob_c1 e_4, ob_c2 e_4, ob_c3 e_4, ob_q5 e_4, ob_fc e_4, ob_q7 e_4, ob_mc e_4, ob_sl e_4 e_5, th_cn e_9, th_pv e_9, th_b e_9, th_m e_9, th_s e_9, th_lk e_9, ob_q1 eq_49, ob_pc eq_49, ob_c1 eq_49, ob_c2 eq_49, ob_c3 eq_49, ob_q5 eq_49, ob_fc eq_49, ob_q7 eq_49, ob_mc eq_49, ob_sl eq_49 eq_50, th_cn es_f_48, th_pv es_f_48, th_b es_f_48, th_m es_f_48, th_s es_f_48, th_lk es_f_48, th_rw0 es_f_48, eo_5, cl_0, cl_1, cl_2, cl_4, cl_10, cl_13, cl_16]; done) | (simp_all; done) | (simp_all; simp only [ks_rw, ob_q1 e_4, ob_pc e_4, ob_c1 e_4, ob_c2 e_4, ob_c3 e_4, ob_q5 e_4, ob_fc e_4, ob_q7 e_4, ob_mc e_4, ob_sl e_4 e_5, th_cn e_9, th_pv e_9, th_b e_9, th_m e_9, th_s e_9, th_lk e_9, ob_q1 eq_49, ob_pc eq_49, ob_c1 eq_49, ob_c2 eq_49, ob_c3 eq_49, ob_q5 eq_49, ob_fc eq_49, ob_q7 eq_49, ob_mc eq_49, ob_sl eq_49 eq_50, th_cn es_f_48, th_pv es_f_48, th_b es_f_48, th_m es_f_48, th_s es_f_48, th_lk es_f_48, th_rw0 es_f_48, eo_5, cl_0, cl_1, cl_2, cl_4, cl_10, cl_13, cl_16]))), K, L, f_48, hPI, EXT.rf, Or.inr ⟨y_6, ⟨by omega, by rw [ob_sl e_4 e_5]; exact eo_5, by omega, by omega⟩, Or.inl ⟨by omega, rfl, rfl, by subst hg_f_48; simp only [s_F_of e_9, List.set_cons_succ, List.set_cons_zero]⟩⟩, by rw [ht]; exact hP, hD⟩, hS.F ht⟩) hS.2.2 dX2_row_75
          · have c_12 := mt Int32.le_iff_toInt_le.mpr c_12
            refine lv_iload_n hx hb dX2_row_41 rfl (lv_at hl 3 rfl) ?_
            refine lv_bipush (v := (-4)) hx hb dX2_row_42 (by decide) ?_
            refine lv_icmp_eq (tgt := 50) hx hb dX2_row_44 (by decide) (fun c_51 => ?_) (fun c_51 => ?_)
            · have c_51 := congrArg Int32.toInt c_51
              refine lv_aload_n hx hb dX2_row_50 rfl (lv_at hl 0 rfl) ?_
              refine lv_ifnonnull (tgt := 57) hx hb dX2_row_51 (by decide) ?_
              refine lv_aload_n hx hb dX2_row_57 rfl (lv_at hl 0 rfl) ?_
              refine lv_iload_n hx hb dX2_row_58 rfl (lv_at hl 3 rfl) ?_
              refine lv_bipush (v := (-4)) hx hb dX2_row_59 (by decide) ?_
              refine lv_icmp_ne (tgt := 68) hx hb dX2_row_61 (by decide) (fun c_52 => ?_) (fun c_52 => ?_)
              · have c_52 := mt Int32.toInt_inj.mp c_52
                refine lv_iload_n hx hb dX2_row_68 rfl (lv_at hl 3 rfl) ?_
                have hn_54 : ¬ p1 < 0 := mt Int32.lt_iff_toInt_lt.mp (by omega)
                obtain ⟨j_54, hj_54, ej_54⟩ := nI_of2 (M := 20) (n := 20) (by decide) hn_54 (Int32.le_iff_toInt_le.mpr (by omega))
                refine va_newa (a0 := (j_54, .inl (fun _ => 0))) (N' := j_54) (atype := .int) (ty := .int) hx hb (hts (.arrayClass .int) (by decide +kernel)) rfl hK hP hD hS hA (newI j_54) hn_54 (by rw [ej_54]; exact nI_clamp (by omega)) (by show j_54 * 4 ≤ 536870912; omega) (Nat.le_of_ble_eq_true rfl) (Nat.le_trans (show 0 + j_54 ≤ 0 + 20 by omega) (Nat.le_of_ble_eq_true rfl)) dX2_row_69 (fun q_53 cA_54 H hK9 hP hD hS => ?_)
                obtain rfl : kI = cA_54 := ty_one hK9 1 3 rfl rfl (Or.inl rfl)
                refine W.widen (k := 1) (n := 20) (by omega) (by omega) ?_
                obtain ⟨K_56, L_57, f_55, hPI, hE, fq_58, hsm, hP, hD, hnf_54⟩ := fold1x hPI hj_54 hP hD
                have eq_59 := (hsm h0 hh0.1).trans e_4
                have eq_60 := (hsm y_6 fy_6.1).trans e_9
                have eq_61 := (hsm q1_4 fq1_4.1).trans e_5
                have fe_62 := fy_6.ext hE
                have fe_63 := fy_6.ext hE
                have fe_64 := hh0.ext hE
                have hE0 := hE
                have fe_65 := hh0.ext hE
                have fe_66 := fq1_4.ext hE
                have fe_67 := fy_6.ext hE
                have fe_68 := fq1_4.ext hE
                have fe_69 := fc1_4.ext hE
                have fe_70 := fc2_4.ext hE
                have fe_71 := fc3_4.ext hE
                have fe_72 := fq5_4.ext hE
                have fe_73 := fq7_4.ext hE
                have fe_74 := fv_9.ext hE
                have fe_75 := fb_9.ext hE
                have fe_76 := fm_9.ext hE
                have fe_77 := fst_9.ext hE
                have fe_78 := fi_9.ext hE
                have fe_79 := fun j hj => (fg_5 j hj).ext hE
                obtain ⟨k_80, hk_80⟩ := va_plg fe_62.1 eq_60
                have hD9 := hD
                refine va_put (D := (dC, dI)) (ci := 1) (v := .ref q_53) (ty := .array .int) (C := RX1) (T := TX1) (N := 6) hx hb hts iX1_ tyX1 tyX1_ok nmX1 hown hK hP hD hS k_80 hk_80 rfl 5 (by decide) (hts (.fieldLink RX2 91 "FieldLeaves$Thing" "ints" "[I") (by decide +kernel)) (fun _ h9 => h9) rfl (by decide +kernel) rfl rfl (Nat.le_of_ble_eq_true rfl) dX2_row_71 (fun H locs hP hD hS => ?_)
                have op_81 : opr K_56 L_57 4 (some q_53) := fun _ h9 => by cases h9; exact fq_58
                have hP : va_P (dC, dI) vwCl (va_pl L_57 (va_up f_55 y_6 (.inr (1, [.int cn_9, .ref v_9, va_rf b_9, va_rf m_9, va_rf st_9, va_rf (some q_53)])))) H := by rw [← va_pls hD9 fe_62.1 hk_80 _]; exact hP
                have hD : va_D A (va_pl L_57 (va_up f_55 y_6 (.inr (1, [.int cn_9, .ref v_9, va_rf b_9, va_rf m_9, va_rf st_9, va_rf (some q_53)])))) := by rw [← va_pls hD9 fe_62.1 hk_80 _]; exact hD
                have hPI := hPI.put (e := .inr (1, [.int cn_9, .ref v_9, va_rf b_9, va_rf m_9, va_rf st_9, va_rf (some q_53)])) fe_62 ⟨cn_9, v_9, b_9, m_9, st_9, (some q_53), rfl, fe_74, fe_75, fe_76, fe_77, op_81⟩
                have es_f_82 : va_up f_55 y_6 (.inr (1, [.int cn_9, .ref v_9, va_rf b_9, va_rf m_9, va_rf st_9, va_rf (some q_53)])) y_6 = .inr (1, [.int cn_9, .ref v_9, va_rf b_9, va_rf m_9, va_rf st_9, va_rf (some q_53)]) := va_up_self _ _ _
                have eq_83 := (va_up_ne f_55 (.inr (1, [.int cn_9, .ref v_9, va_rf b_9, va_rf m_9, va_rf st_9, va_rf (some q_53)])) (isr_ne fe_65 fe_62 (by decide))).trans eq_59
                have eq_84 := (va_up_ne f_55 (.inr (1, [.int cn_9, .ref v_9, va_rf b_9, va_rf m_9, va_rf st_9, va_rf (some q_53)])) (isr_ne fe_66 fe_62 (by decide))).trans eq_61
                generalize hg_f_82 : va_up f_55 y_6 (.inr (1, [.int cn_9, .ref v_9, va_rf b_9, va_rf m_9, va_rf st_9, va_rf (some q_53)])) = f_82 at hP hD hPI es_f_82 eq_83 eq_84
                refine lv_iload_n hx hb dX2_row_74 rfl (lv_at hl 3 rfl) ?_
                refine W.widen (k := 1) (n := 20) (by omega) (by omega) ?_
                exact W.iret (v := p1) hx hb hr (fun t ht hW => ⟨⟨p1, (), rfl, (by have hc2 := congrArg Int32.toInt (th_cn e_9); have hc4 := congrArg Int32.toInt (th_cn es_f_82); first | (simp only [ks_rw, ob_q1 e_4, ob_pc e_4, ob_c1 e_4, ob_c2 e_4, ob_c3 e_4, ob_q5 e_4, ob_fc e_4, ob_q7 e_4, ob_mc e_4, ob_sl e_4 e_5, th_cn e_9, th_pv e_9, th_b e_9, th_m e_9, th_s e_9, th_lk e_9, ob_q1 eq_83, ob_pc eq_83, ob_c1 eq_83, ob_c2 eq_83, ob_c3 eq_83, ob_q5 eq_83, ob_fc eq_83, ob_q7 eq_83, ob_mc eq_83, ob_sl eq_83 eq_84, th_cn es_f_82, th_pv es_f_82, th_b es_f_82, th_m es_f_82, th_s es_f_82, th_lk es_f_82, th_pi es_f_82, eo_5, cl_0, cl_1, cl_2, cl_4, cl_10, cl_13, cl_16]; done) | (simp only [ks_rw, ob_q1 e_4, ob_pc e_4, ob_c1 e_4, ob_c2 e_4, ob_c3 e_4, ob_q5 e_4, ob_fc e_4, ob_q7 e_4, ob_mc e_4, ob_sl e_4 e_5, th_cn e_9, th_pv e_9, th_b e_9, th_m e_9, th_s e_9, th_lk e_9, ob_q1 eq_83, ob_pc eq_83, ob_c1 eq_83, ob_c2 eq_83, ob_c3 eq_83, ob_q5 eq_83, ob_fc eq_83, ob_q7 eq_83, ob_mc eq_83, ob_sl eq_83 eq_84, th_cn es_f_82, th_pv es_f_82, th_b es_f_82, th_m es_f_82, th_s es_f_82, th_lk es_f_82, th_pi es_f_82, eo_5, cl_0, cl_1, cl_2, cl_4, cl_10, cl_13, cl_16] <;> (repeat' split) <;> first | rfl | (exfalso; omega) | contradiction | (simp only [ks_rw, ob_q1 e_4, ob_pc e_4, ob_c1 e_4, ob_c2 e_4, ob_c3 e_4, ob_q5 e_4, ob_fc e_4, ob_q7 e_4, ob_mc e_4, ob_sl e_4 e_5, th_cn e_9, th_pv e_9, th_b e_9, th_m e_9, th_s e_9, th_lk e_9, ob_q1 eq_83, ob_pc eq_83, ob_c1 eq_83, ob_c2 eq_83, ob_c3 eq_83, ob_q5 eq_83, ob_fc eq_83, ob_q7 eq_83, ob_mc eq_83, ob_sl eq_83 eq_84, th_cn es_f_82, th_pv es_f_82, th_b es_f_82, th_m es_f_82, th_s es_f_82, th_lk es_f_82, th_pi es_f_82, eo_5, cl_0, cl_1, cl_2, cl_4, cl_10, cl_13, cl_16]; done) | (simp_all; done) | (simp_all; simp only [ks_rw, ob_q1 e_4, ob_pc e_4, ob_c1 e_4, ob_c2 e_4, ob_c3 e_4, ob_q5 e_4, ob_fc e_4, ob_q7 e_4, ob_mc e_4, ob_sl e_4 e_5, th_cn e_9, th_pv e_9, th_b e_9, th_m e_9, th_s e_9, th_lk e_9, ob_q1 eq_83, ob_pc eq_83, ob_c1 eq_83, ob_c2 eq_83, ob_c3 eq_83, ob_q5 eq_83, ob_fc eq_83, ob_q7 eq_83, ob_mc eq_83, ob_sl eq_83 eq_84, th_cn es_f_82, th_pv es_f_82, th_b es_f_82, th_m es_f_82, th_s es_f_82, th_lk es_f_82, th_pi es_f_82, eo_5, cl_0, cl_1, cl_2, cl_4, cl_10, cl_13, cl_16]))), K_56, L_57, f_82, hPI, hE0, Or.inr ⟨y_6, ⟨by omega, by rw [ob_sl e_4 e_5]; exact eo_5, by omega, by omega⟩, Or.inr ⟨by omega, q_53, ⟨hnf_54.1, hnf_54.2.1, hnf_54.2.2.1⟩, by rw [show Int32.toNatClampNeg p1 = j_54 from by rw [ej_54]; exact nI_clamp (by omega), ← hnf_54.2.2.2]; subst hg_f_82; simp only [s_F_of eq_60, List.set_cons_succ, List.set_cons_zero]⟩⟩, by rw [ht]; exact hP, hD⟩, hS.F ht⟩) hS.2.2 dX2_row_75
              · have c_52 := congrArg Int32.toInt c_52
                refine lv_null hx hb dX2_row_64 ?_
                refine lv_goto (tgt := 71) hx hb dX2_row_65 (by decide) ?_
                obtain ⟨k_85, hk_85⟩ := va_plg fy_6.1 e_9
                have hD9 := hD
                refine va_put (D := (dC, dI)) (ci := 1) (v := .null) (ty := .array .int) (C := RX1) (T := TX1) (N := 6) hx hb hts iX1_ tyX1 tyX1_ok nmX1 hown hK hP hD hS k_85 hk_85 rfl 5 (by decide) (hts (.fieldLink RX2 91 "FieldLeaves$Thing" "ints" "[I") (by decide +kernel)) (fun _ h9 => h9) rfl (by decide +kernel) rfl rfl (Nat.le_of_ble_eq_true rfl) dX2_row_71 (fun H locs hP hD hS => ?_)
                have op_86 : opr K L 4 none := fun _ h9 => by cases h9
                have hP : va_P (dC, dI) vwCl (va_pl L (va_up f y_6 (.inr (1, [.int cn_9, .ref v_9, va_rf b_9, va_rf m_9, va_rf st_9, va_rf none])))) H := by rw [← va_pls hD9 fy_6.1 hk_85 _]; exact hP
                have hD : va_D A (va_pl L (va_up f y_6 (.inr (1, [.int cn_9, .ref v_9, va_rf b_9, va_rf m_9, va_rf st_9, va_rf none])))) := by rw [← va_pls hD9 fy_6.1 hk_85 _]; exact hD
                have hPI := hPI.put (e := .inr (1, [.int cn_9, .ref v_9, va_rf b_9, va_rf m_9, va_rf st_9, va_rf none])) fy_6 ⟨cn_9, v_9, b_9, m_9, st_9, none, rfl, fv_9, fb_9, fm_9, fst_9, op_86⟩
                have es_f_87 : va_up f y_6 (.inr (1, [.int cn_9, .ref v_9, va_rf b_9, va_rf m_9, va_rf st_9, va_rf none])) y_6 = .inr (1, [.int cn_9, .ref v_9, va_rf b_9, va_rf m_9, va_rf st_9, va_rf none]) := va_up_self _ _ _
                have eq_88 := (va_up_ne f (.inr (1, [.int cn_9, .ref v_9, va_rf b_9, va_rf m_9, va_rf st_9, va_rf none])) (isr_ne hh0 fy_6 (by decide))).trans e_4
                have eq_89 := (va_up_ne f (.inr (1, [.int cn_9, .ref v_9, va_rf b_9, va_rf m_9, va_rf st_9, va_rf none])) (isr_ne fq1_4 fy_6 (by decide))).trans e_5
                generalize hg_f_87 : va_up f y_6 (.inr (1, [.int cn_9, .ref v_9, va_rf b_9, va_rf m_9, va_rf st_9, va_rf none])) = f_87 at hP hD hPI es_f_87 eq_88 eq_89
                refine lv_iload_n hx hb dX2_row_74 rfl (lv_at hl 3 rfl) ?_
                refine W.widen (k := 1) (n := 20) (by omega) (by omega) ?_
                exact W.iret (v := p1) hx hb hr (fun t ht hW => ⟨⟨p1, (), rfl, (by have hc2 := congrArg Int32.toInt (th_cn e_9); have hc4 := congrArg Int32.toInt (th_cn es_f_87); first | (simp only [ks_rw, ob_q1 e_4, ob_pc e_4, ob_c1 e_4, ob_c2 e_4, ob_c3 e_4, ob_q5 e_4, ob_fc e_4, ob_q7 e_4, ob_mc e_4, ob_sl e_4 e_5, th_cn e_9, th_pv e_9, th_b e_9, th_m e_9, th_s e_9, th_lk e_9, ob_q1 eq_88, ob_pc eq_88, ob_c1 eq_88, ob_c2 eq_88, ob_c3 eq_88, ob_q5 eq_88, ob_fc eq_88, ob_q7 eq_88, ob_mc eq_88, ob_sl eq_88 eq_89, th_cn es_f_87, th_pv es_f_87, th_b es_f_87, th_m es_f_87, th_s es_f_87, th_lk es_f_87, th_rw0 es_f_87, eo_5, cl_0, cl_1, cl_2, cl_4, cl_10, cl_13, cl_16]; done) | (simp only [ks_rw, ob_q1 e_4, ob_pc e_4, ob_c1 e_4, ob_c2 e_4, ob_c3 e_4, ob_q5 e_4, ob_fc e_4, ob_q7 e_4, ob_mc e_4, ob_sl e_4 e_5, th_cn e_9, th_pv e_9, th_b e_9, th_m e_9, th_s e_9, th_lk e_9, ob_q1 eq_88, ob_pc eq_88, ob_c1 eq_88, ob_c2 eq_88, ob_c3 eq_88, ob_q5 eq_88, ob_fc eq_88, ob_q7 eq_88, ob_mc eq_88, ob_sl eq_88 eq_89, th_cn es_f_87, th_pv es_f_87, th_b es_f_87, th_m es_f_87, th_s es_f_87, th_lk es_f_87, th_rw0 es_f_87, eo_5, cl_0, cl_1, cl_2, cl_4, cl_10, cl_13, cl_16] <;> (repeat' split) <;> first | rfl | (exfalso; omega) | contradiction | (simp only [ks_rw, ob_q1 e_4, ob_pc e_4, ob_c1 e_4, ob_c2 e_4, ob_c3 e_4, ob_q5 e_4, ob_fc e_4, ob_q7 e_4, ob_mc e_4, ob_sl e_4 e_5, th_cn e_9, th_pv e_9, th_b e_9, th_m e_9, th_s e_9, th_lk e_9, ob_q1 eq_88, ob_pc eq_88, ob_c1 eq_88, ob_c2 eq_88, ob_c3 eq_88, ob_q5 eq_88, ob_fc eq_88, ob_q7 eq_88, ob_mc eq_88, ob_sl eq_88 eq_89, th_cn es_f_87, th_pv es_f_87, th_b es_f_87, th_m es_f_87, th_s es_f_87, th_lk es_f_87, th_rw0 es_f_87, eo_5, cl_0, cl_1, cl_2, cl_4, cl_10, cl_13, cl_16]; done) | (simp_all; done) | (simp_all; simp only [ks_rw, ob_q1 e_4, ob_pc e_4, ob_c1 e_4, ob_c2 e_4, ob_c3 e_4, ob_q5 e_4, ob_fc e_4, ob_q7 e_4, ob_mc e_4, ob_sl e_4 e_5, th_cn e_9, th_pv e_9, th_b e_9, th_m e_9, th_s e_9, th_lk e_9, ob_q1 eq_88, ob_pc eq_88, ob_c1 eq_88, ob_c2 eq_88, ob_c3 eq_88, ob_q5 eq_88, ob_fc eq_88, ob_q7 eq_88, ob_mc eq_88, ob_sl eq_88 eq_89, th_cn es_f_87, th_pv es_f_87, th_b es_f_87, th_m es_f_87, th_s es_f_87, th_lk es_f_87, th_rw0 es_f_87, eo_5, cl_0, cl_1, cl_2, cl_4, cl_10, cl_13, cl_16]))), K, L, f_87, hPI, EXT.rf, Or.inr ⟨y_6, ⟨by omega, by rw [ob_sl e_4 e_5]; exact eo_5, by omega, by omega⟩, Or.inl ⟨by omega, rfl, rfl, by subst hg_f_87; simp only [s_F_of e_9, List.set_cons_succ, List.set_cons_zero]⟩⟩, by rw [ht]; exact hP, hD⟩, hS.F ht⟩) hS.2.2 dX2_row_75
            · have c_51 := mt Int32.toInt_inj.mp c_51
              refine lv_bipush (v := (-13)) hx hb dX2_row_47 (by decide) ?_
              refine W.widen (k := 1) (n := 20) (by omega) (by omega) ?_
              exact W.iret (v := (-13)) hx hb hr (fun t ht hW => ⟨⟨(-13), (), rfl, (by have hc2 := congrArg Int32.toInt (th_cn e_9); first | (simp only [ks_rw, ob_q1 e_4, ob_pc e_4, ob_c1 e_4, ob_c2 e_4, ob_c3 e_4, ob_q5 e_4, ob_fc e_4, ob_q7 e_4, ob_mc e_4, ob_sl e_4 e_5, th_cn e_9, th_pv e_9, th_b e_9, th_m e_9, th_s e_9, th_lk e_9, eo_5, cl_0, cl_1, cl_2, cl_4, cl_10, cl_13, cl_16]; done) | (simp only [ks_rw, ob_q1 e_4, ob_pc e_4, ob_c1 e_4, ob_c2 e_4, ob_c3 e_4, ob_q5 e_4, ob_fc e_4, ob_q7 e_4, ob_mc e_4, ob_sl e_4 e_5, th_cn e_9, th_pv e_9, th_b e_9, th_m e_9, th_s e_9, th_lk e_9, eo_5, cl_0, cl_1, cl_2, cl_4, cl_10, cl_13, cl_16] <;> (repeat' split) <;> first | rfl | (exfalso; omega) | contradiction | (simp only [ks_rw, ob_q1 e_4, ob_pc e_4, ob_c1 e_4, ob_c2 e_4, ob_c3 e_4, ob_q5 e_4, ob_fc e_4, ob_q7 e_4, ob_mc e_4, ob_sl e_4 e_5, th_cn e_9, th_pv e_9, th_b e_9, th_m e_9, th_s e_9, th_lk e_9, eo_5, cl_0, cl_1, cl_2, cl_4, cl_10, cl_13, cl_16]; done) | (simp_all; done) | (simp_all; simp only [ks_rw, ob_q1 e_4, ob_pc e_4, ob_c1 e_4, ob_c2 e_4, ob_c3 e_4, ob_q5 e_4, ob_fc e_4, ob_q7 e_4, ob_mc e_4, ob_sl e_4 e_5, th_cn e_9, th_pv e_9, th_b e_9, th_m e_9, th_s e_9, th_lk e_9, eo_5, cl_0, cl_1, cl_2, cl_4, cl_10, cl_13, cl_16]))), K, L, f, hPI, EXT.rf, Or.inl ⟨fun x h1 h2 h3 h4 => by rw [ob_sl e_4 e_5, eo_5] at h2; cases h2; omega, rfl, rfl, rfl⟩, by rw [ht]; exact hP, hD⟩, hS.F ht⟩) hS.2.2 dX2_row_49
        · refine lv_if_ne (tgt := 37) hx hb dX2_row_31 (by decide) (fun c9 => absurd c9 (by decide)) (fun _ => ?_)
          refine lv_bipush (v := (-14)) hx hb dX2_row_34 (by decide) ?_
          refine W.widen (k := 1) (n := 20) (by omega) (by omega) ?_
          exact W.iret (v := (-14)) hx hb hr (fun t ht hW => ⟨⟨(-14), (), rfl, (by have hc2 := congrArg Int32.toInt (th_cn e_9); first | (simp only [ks_rw, ob_q1 e_4, ob_pc e_4, ob_c1 e_4, ob_c2 e_4, ob_c3 e_4, ob_q5 e_4, ob_fc e_4, ob_q7 e_4, ob_mc e_4, ob_sl e_4 e_5, th_cn e_9, th_pv e_9, th_b e_9, th_m e_9, th_s e_9, th_lk e_9, eo_5, cl_0, cl_1, cl_2, cl_4, cl_10, cl_13, cl_16]; done) | (simp only [ks_rw, ob_q1 e_4, ob_pc e_4, ob_c1 e_4, ob_c2 e_4, ob_c3 e_4, ob_q5 e_4, ob_fc e_4, ob_q7 e_4, ob_mc e_4, ob_sl e_4 e_5, th_cn e_9, th_pv e_9, th_b e_9, th_m e_9, th_s e_9, th_lk e_9, eo_5, cl_0, cl_1, cl_2, cl_4, cl_10, cl_13, cl_16] <;> (repeat' split) <;> first | rfl | (exfalso; omega) | contradiction | (simp only [ks_rw, ob_q1 e_4, ob_pc e_4, ob_c1 e_4, ob_c2 e_4, ob_c3 e_4, ob_q5 e_4, ob_fc e_4, ob_q7 e_4, ob_mc e_4, ob_sl e_4 e_5, th_cn e_9, th_pv e_9, th_b e_9, th_m e_9, th_s e_9, th_lk e_9, eo_5, cl_0, cl_1, cl_2, cl_4, cl_10, cl_13, cl_16]; done) | (simp_all; done) | (simp_all; simp only [ks_rw, ob_q1 e_4, ob_pc e_4, ob_c1 e_4, ob_c2 e_4, ob_c3 e_4, ob_q5 e_4, ob_fc e_4, ob_q7 e_4, ob_mc e_4, ob_sl e_4 e_5, th_cn e_9, th_pv e_9, th_b e_9, th_m e_9, th_s e_9, th_lk e_9, eo_5, cl_0, cl_1, cl_2, cl_4, cl_10, cl_13, cl_16]))), K, L, f, hPI, EXT.rf, Or.inl ⟨fun x h1 h2 h3 h4 => by rw [ob_sl e_4 e_5, eo_5] at h2; cases h2; omega, rfl, rfl, rfl⟩, by rw [ht]; exact hP, hD⟩, hS.F ht⟩) hS.2.2 dX2_row_36
    · have c_3 := mt Int32.le_iff_toInt_le.mpr c_3
      refine lv_iconst (v := (-1)) hx hb dX2_row_13 (by decide) ?_
      refine W.widen (k := 1) (n := 20) (by omega) (by omega) ?_
      exact W.iret (v := (-1)) hx hb hr (fun t ht hW => ⟨⟨(-1), (), rfl, (by first | (simp only [ks_rw, cl_0, cl_1, cl_2, cl_4, cl_10, cl_13, cl_16]; done) | (simp only [ks_rw, cl_0, cl_1, cl_2, cl_4, cl_10, cl_13, cl_16] <;> (repeat' split) <;> first | rfl | (exfalso; omega) | contradiction | (simp only [ks_rw, cl_0, cl_1, cl_2, cl_4, cl_10, cl_13, cl_16]; done) | (simp_all; done) | (simp_all; simp only [ks_rw, cl_0, cl_1, cl_2, cl_4, cl_10, cl_13, cl_16]))), K, L, f, hPI, EXT.rf, Or.inl ⟨fun x h1 h2 h3 h4 => by omega, rfl, rfl, rfl⟩, by rw [ht]; exact hP, hD⟩, hS.F ht⟩) hS.2.2 dX2_row_14
  · refine lv_if_eq (tgt := 13) hx hb dX2_row_4 (by decide) (fun _ => ?_) (fun c9 => absurd c9 (by decide))
    refine lv_iconst (v := (-1)) hx hb dX2_row_13 (by decide) ?_
    refine W.widen (k := 1) (n := 20) (by omega) (by omega) ?_
    exact W.iret (v := (-1)) hx hb hr (fun t ht hW => ⟨⟨(-1), (), rfl, (by first | (simp only [ks_rw, cl_0, cl_1, cl_2, cl_4, cl_10, cl_13, cl_16]; done) | (simp only [ks_rw, cl_0, cl_1, cl_2, cl_4, cl_10, cl_13, cl_16] <;> (repeat' split) <;> first | rfl | (exfalso; omega) | contradiction | (simp only [ks_rw, cl_0, cl_1, cl_2, cl_4, cl_10, cl_13, cl_16]; done) | (simp_all; done) | (simp_all; simp only [ks_rw, cl_0, cl_1, cl_2, cl_4, cl_10, cl_13, cl_16]))), K, L, f, hPI, EXT.rf, Or.inl ⟨fun x h1 h2 h3 h4 => by omega, rfl, rfl, rfl⟩, by rw [ht]; exact hP, hD⟩, hS.F ht⟩) hS.2.2 dX2_row_14

