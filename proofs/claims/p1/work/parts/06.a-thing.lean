set_option maxRecDepth 20000 in
theorem in_c_X1_init_X1 : ∀ w ∈ u_ws RX1 TX1 6, w ∈ wsX1_init := by decide +kernel
set_option maxRecDepth 20000 in
theorem oi_c_X1_init : Cond.code objectInit ⟨#[0xb1]⟩ 1 none ∈ wsX1_init := List.mem_of_getElem? (i := 3) rfl
set_option maxRecDepth 100000 in
set_option maxHeartbeats 4000000 in
theorem c_X1_init (l : Launch) (dC : Nat → ClassId) (dI : Nat → Nat → Nat) (TT : Nat × Nat × Nat) (sz : Nat) (t0 : Nat) (c0 n0 : Int32) : Met l yX1_init wsX1_init ({ frames := 1, cells := 1, slots := 17, locals := 12 } : Room) (va_Pc [.ref t0, .int c0, .int n0] (pr dC dI [(t0, .inr (1, [.int 0, .null, .null, .null, .null, .null]))] [(t0, .inr (1, [.int 0, .null, .null, .null, .null, .null]))] [] sz TT)) (va_Qv (fun (u : Nat) => True) (fun (u : Nat) t => va_P (dC, dI) vwCl [(t0, .inr (1, [.int c0, .ref u, .null, .null, .null, .null]))] t.heap ∧ va_D (va_A [(t0, .inr (1, [.int 0, .null, .null, .null, .null, .null]))] sz) [(t0, .inr (1, [.int c0, .ref u, .null, .null, .null, .null]))]) (va_A [(t0, .inr (1, [.int 0, .null, .null, .null, .null, .null]))] sz)) 1 17 (va_A [(t0, .inr (1, [.int 0, .null, .null, .null, .null, .null]))] sz) := by
  refine Met.ofW (cc := cX1_init) (maxL := 3) (ret := none) (by decide) rfl ?_
  intro p e s m args below meth c s₁ B hml hv
  obtain ⟨rfl, hsz, hP, hK, hD0, hst⟩ := hv
  have hx := B.exec
  have hb := B.bytes
  have hr := B.returns
  have hts := atoms_spec (ws := wsX1_init) B.pre
  have hown : s.vm.findClass RX1 = some m.cls := findClass_of_methodNamed B.named
  have hlocks := B.notSynchronized
  have hin : meth.name = "<init>" := (name_of_methodNamed B.named B.method).1
  have iX1_ := in_c_X1_init_X1
  have oi_ := oi_c_X1_init
  subst hsz
  have hD := hD0.self (sz := s.heap.size)
  generalize hAe : va_A [(t0, .inr (1, [.int 0, .null, .null, .null, .null, .null]))] s.heap.size = A at hD hst ⊢
  have hA : ∀ q : Nat, s.heap.size ≤ q → A q := fun q h => by rw [← hAe]; exact Or.inr h
  have hS : va_S A s.heap s.heap [] := va_S.rf
  have hl := lv_entry ([.ref t0, .int c0, .int n0]) (n := 3) (Nat.le_of_ble_eq_true rfl)
  rw [lg_entry_eq]
  generalize (lg_sl ([.ref t0, .int c0, .int n0]) ++ List.replicate (3 - (lg_sl ([.ref t0, .int c0, .int n0])).length) Slot.unset).toArray = ls at hl ⊢
  have hl : lv_has ls 3 [(0, .ref t0), (1, .int c0), (2, .int n0)] := hl
  have k2_ : Int32.toInt 2 = 2 := by decide
  have k4_ : Int32.toInt 4 = 4 := by decide
  refine lv_aload_n hx hb dX1_init_0 rfl (lv_at hl 0 rfl) ?_
  refine W.objInit hx hb hown (hts (.methodLink RX1 3 objectInit) (by decide +kernel)) (hts (.instanceMethod objectInit) (by decide +kernel)) (hts (.code objectInit ⟨#[0xb1]⟩ 1 none) oi_) rfl (by rw [hml]; exact hl.1) rfl dX1_init_1 (Nat.le_of_ble_eq_true rfl) (Nat.le_of_ble_eq_true rfl) ?_
  refine W.eq (g2 := F0 m 4 ls []) rfl ?_
  refine lv_aload_n hx hb dX1_init_4 rfl (lv_at hl 0 rfl) ?_
  refine lv_bipush (v := 17) hx hb dX1_init_5 (by decide) ?_
  refine va_newa (a0 := (17, .inr (.inl (fun _ => 0)))) (N' := 17) (atype := .long) (ty := .long) hx hb (hts (.arrayClass .long) (by decide +kernel)) rfl hK hP hD hS hA (newJ 17) (by decide) (by decide) (by decide) (Nat.le_of_ble_eq_true rfl) (Nat.le_of_ble_eq_true rfl) dX1_init_7 (fun q_1 k_2 H hK hP hD hS => ?_)
  have hP : va_P (dC, dI) vwCl [(t0, .inr (1, [.int 0, .null, .null, .null, .null, .null])), (q_1, .inl (k_2, 17, .inr (.inl (fun _ => 0))))] H := hP
  have hD : va_D A [(t0, .inr (1, [.int 0, .null, .null, .null, .null, .null])), (q_1, .inl (k_2, 17, .inr (.inl (fun _ => 0))))] := hD
  have hK : va_K (dC, dI) vwCl [(k_2, .long)] s := hK
  refine W.widen (k := 1) (n := 17) (by omega) (by omega) ?_
  refine va_putF (D := (dC, dI)) (ci := 1) (v := .ref q_1) (ty := .array .long) (C := RX1) (T := TX1) (N := 6) hx hb hts iX1_ tyX1 tyX1_ok nmX1 hown hK hP hD hS 0 rfl rfl 1 (by decide) (hts (.fieldLink RX1 9 "FieldLeaves$Thing" "values" "[J") (by decide +kernel)) (fun _ h9 => h9) rfl hin rfl (by decide +kernel) rfl rfl (Nat.le_of_ble_eq_true rfl) dX1_init_9 (fun H locs hP hD hS => ?_)
  have hP : va_P (dC, dI) vwCl [(t0, .inr (1, [.int 0, .ref q_1, .null, .null, .null, .null])), (q_1, .inl (k_2, 17, .inr (.inl (fun _ => 0))))] H := hP
  have hD : va_D A [(t0, .inr (1, [.int 0, .ref q_1, .null, .null, .null, .null])), (q_1, .inl (k_2, 17, .inr (.inl (fun _ => 0))))] := hD
  refine lv_aload_n hx hb dX1_init_12 rfl (lv_at hl 0 rfl) ?_
  refine lv_iload_n hx hb dX1_init_13 rfl (lv_at hl 1 rfl) ?_
  refine va_putF (D := (dC, dI)) (ci := 1) (v := .int c0) (ty := .int) (C := RX1) (T := TX1) (N := 6) hx hb hts iX1_ tyX1 tyX1_ok nmX1 hown hK hP hD hS 0 rfl rfl 0 (by decide) (hts (.fieldLink RX1 15 "FieldLeaves$Thing" "classNumber" "I") (by decide +kernel)) (fun _ h9 => h9) rfl hin rfl (by decide +kernel) rfl rfl (Nat.le_of_ble_eq_true rfl) dX1_init_14 (fun H locs hP hD hS => ?_)
  have hP : va_P (dC, dI) vwCl [(t0, .inr (1, [.int c0, .ref q_1, .null, .null, .null, .null])), (q_1, .inl (k_2, 17, .inr (.inl (fun _ => 0))))] H := hP
  have hD : va_D A [(t0, .inr (1, [.int c0, .ref q_1, .null, .null, .null, .null])), (q_1, .inl (k_2, 17, .inr (.inl (fun _ => 0))))] := hD
  refine lv_iload_n hx hb dX1_init_17 rfl (lv_at hl 1 rfl) ?_
  refine lv_iconst (v := 2) hx hb dX1_init_18 (by decide) ?_
  refine lv_icmp_ne (tgt := 34) hx hb dX1_init_19 (by decide) (fun c_3 => ?_) (fun c_3 => ?_)
  · have c_3 := mt Int32.toInt_inj.mp c_3
    refine lv_iload_n hx hb dX1_init_34 rfl (lv_at hl 1 rfl) ?_
    refine lv_iconst (v := 4) hx hb dX1_init_35 (by decide) ?_
    refine lv_icmp_ne (tgt := 48) hx hb dX1_init_36 (by decide) (fun c_4 => ?_) (fun c_4 => ?_)
    · have c_4 := mt Int32.toInt_inj.mp c_4
      refine W.widen (k := 1) (n := 17) (by decide) (by decide) ?_
      have hP9 := hP.sub (ws' := [(t0, .inr (1, [.int c0, .ref q_1, .null, .null, .null, .null]))]) [0] rfl
      have hD9 := hD.sub (ws' := [(t0, .inr (1, [.int c0, .ref q_1, .null, .null, .null, .null]))]) [0] (by decide) rfl
      exact W.vret hx hb hr (fun t ht hW => ⟨⟨q_1, rfl, trivial, by rw [ht]; exact hP9, hD9⟩, hS.F ht⟩) hS.2.2 dX1_init_48
    · have c_4 := congrArg Int32.toInt c_4
      refine lv_aload_n hx hb dX1_init_39 rfl (lv_at hl 0 rfl) ?_
      refine va_get (D := (dC, dI)) (ci := 1) (v := .ref q_1) (C := RX1) (T := TX1) (N := 6) hx hb hts iX1_ hown hK hP 0 rfl rfl 1 (by decide) (hts (.fieldLink RX1 9 "FieldLeaves$Thing" "values" "[J") (by decide +kernel)) (fun _ h9 => h9) rfl dX1_init_40 ?_
      refine lv_bipush (v := 16) hx hb dX1_init_43 (by decide) ?_
      refine lv_iload_n hx hb dX1_init_45 rfl (lv_at hl 2 rfl) ?_
      refine lv_i2l (v := Int32.toInt64 n0) hx hb dX1_init_46 rfl ?_
      have k_z_5 := Int32.toInt_toInt64 n0
      have h_6 : vp_in 16 17 := (vp_in_iff.mpr (by decide))
      refine va_last hx hb hK hP hD hS 1 0 rfl rfl h_6 dX1_init_47 (fun H locs hP hD hS => ?_)
      generalize eg_7 : (vp_updL (fun _ => 0) (Int32.toNatClampNeg 16) (Int32.toInt64 n0)) = g_7 at hP hD
      have hP : va_P (dC, dI) vwCl [(t0, .inr (1, [.int c0, .ref q_1, .null, .null, .null, .null])), (q_1, .inl (k_2, 17, .inr (.inl g_7)))] H := hP
      have hD : va_D A [(t0, .inr (1, [.int c0, .ref q_1, .null, .null, .null, .null])), (q_1, .inl (k_2, 17, .inr (.inl g_7)))] := hD
      refine W.widen (k := 1) (n := 17) (by decide) (by decide) ?_
      have hP9 := hP.sub (ws' := [(t0, .inr (1, [.int c0, .ref q_1, .null, .null, .null, .null]))]) [0] rfl
      have hD9 := hD.sub (ws' := [(t0, .inr (1, [.int c0, .ref q_1, .null, .null, .null, .null]))]) [0] (by decide) rfl
      exact W.vret hx hb hr (fun t ht hW => ⟨⟨q_1, rfl, trivial, by rw [ht]; exact hP9, hD9⟩, hS.F ht⟩) hS.2.2 dX1_init_48
  · have c_3 := congrArg Int32.toInt c_3
    refine lv_aload_n hx hb dX1_init_22 rfl (lv_at hl 0 rfl) ?_
    refine va_get (D := (dC, dI)) (ci := 1) (v := .ref q_1) (C := RX1) (T := TX1) (N := 6) hx hb hts iX1_ hown hK hP 0 rfl rfl 1 (by decide) (hts (.fieldLink RX1 9 "FieldLeaves$Thing" "values" "[J") (by decide +kernel)) (fun _ h9 => h9) rfl dX1_init_23 ?_
    refine lv_bipush (v := 13) hx hb dX1_init_26 (by decide) ?_
    refine lv_iload_n hx hb dX1_init_28 rfl (lv_at hl 2 rfl) ?_
    refine lv_i2l (v := Int32.toInt64 n0) hx hb dX1_init_29 rfl ?_
    have k_z_8 := Int32.toInt_toInt64 n0
    have h_9 : vp_in 13 17 := (vp_in_iff.mpr (by decide))
    refine va_last hx hb hK hP hD hS 1 0 rfl rfl h_9 dX1_init_30 (fun H locs hP hD hS => ?_)
    generalize eg_10 : (vp_updL (fun _ => 0) (Int32.toNatClampNeg 13) (Int32.toInt64 n0)) = g_10 at hP hD
    have hP : va_P (dC, dI) vwCl [(t0, .inr (1, [.int c0, .ref q_1, .null, .null, .null, .null])), (q_1, .inl (k_2, 17, .inr (.inl g_10)))] H := hP
    have hD : va_D A [(t0, .inr (1, [.int c0, .ref q_1, .null, .null, .null, .null])), (q_1, .inl (k_2, 17, .inr (.inl g_10)))] := hD
    refine lv_goto (tgt := 48) hx hb dX1_init_31 (by decide) ?_
    refine W.widen (k := 1) (n := 17) (by decide) (by decide) ?_
    have hP9 := hP.sub (ws' := [(t0, .inr (1, [.int c0, .ref q_1, .null, .null, .null, .null]))]) [0] rfl
    have hD9 := hD.sub (ws' := [(t0, .inr (1, [.int c0, .ref q_1, .null, .null, .null, .null]))]) [0] (by decide) rfl
    exact W.vret hx hb hr (fun t ht hW => ⟨⟨q_1, rfl, trivial, by rw [ht]; exact hP9, hD9⟩, hS.F ht⟩) hS.2.2 dX1_init_48
