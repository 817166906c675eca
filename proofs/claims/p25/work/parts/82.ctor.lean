set_option maxRecDepth 20000 in
theorem in_k_X0_init_X0 : ∀ w ∈ u_ws RX0 TX0 4, w ∈ wsX0_init := by decide +kernel
set_option maxRecDepth 20000 in
theorem oi_k_X0_init : Cond.code objectInit ⟨#[0xb1]⟩ 1 none ∈ wsX0_init := List.mem_of_getElem? (i := 3) rfl
set_option maxRecDepth 100000 in
set_option maxHeartbeats 4000000 in
theorem k_X0_init (l : Launch) (dC : Nat → ClassId) (dI : Nat → Nat → Nat) (TT : Nat × Nat × Nat) (sz : Nat) (l0 : Nat) : Met l yX0_init wsX0_init ({ frames := 1, cells := 3, slots := 900, locals := 12 } : Room) (va_Pc [.ref l0] (pr dC dI [(l0, .inr (0, [.null, .null, .null, .int 0]))] [(l0, .inr (0, [.null, .null, .null, .int 0]))] [] sz TT)) (va_Qv (fun (u : Nat × Nat × Nat) => True) (fun (u : Nat × Nat × Nat) t => ∃ kA kB kC : ClassId, va_P (dC, dI) vwCl [(l0, .inr (0, [.ref u.1, .ref u.2.1, .ref u.2.2, .int 0])), (u.1, .inl (kA, 300, .inl (fun _ => 0))), (u.2.1, .inl (kB, 300, .inl (fun _ => 0))), (u.2.2, .inl (kC, 300, .inr (.inl (fun _ => 0))))] t.heap ∧ va_K (dC, dI) vwCl [(kA, .int), (kB, .int), (kC, .long)] t ∧ va_D (va_A [(l0, .inr (0, [.null, .null, .null, .int 0]))] sz) [(l0, .inr (0, [.ref u.1, .ref u.2.1, .ref u.2.2, .int 0])), (u.1, .inl (kA, 300, .inl (fun _ => 0))), (u.2.1, .inl (kB, 300, .inl (fun _ => 0))), (u.2.2, .inl (kC, 300, .inr (.inl (fun _ => 0))))]) (va_A [(l0, .inr (0, [.null, .null, .null, .int 0]))] sz)) 3 900 (va_A [(l0, .inr (0, [.null, .null, .null, .int 0]))] sz) := by
  refine Met.ofW (cc := cX0_init) (maxL := 1) (ret := none) (by decide) rfl ?_
  intro p e s m args below meth c s₁ B hml hv
  obtain ⟨rfl, hsz, hP, hK, hD0, hst⟩ := hv
  have hx := B.exec
  have hb := B.bytes
  have hr := B.returns
  have hts := atoms_spec (ws := wsX0_init) B.pre
  have hown : s.vm.findClass RX0 = some m.cls := findClass_of_methodNamed B.named
  have hlocks := B.notSynchronized
  have hin : meth.name = "<init>" := (name_of_methodNamed B.named B.method).1
  have iX0_ := in_k_X0_init_X0
  have oi_ := oi_k_X0_init
  subst hsz
  have hD := hD0.self (sz := s.heap.size)
  generalize hAe : va_A [(l0, .inr (0, [.null, .null, .null, .int 0]))] s.heap.size = A at hD hst ⊢
  have hA : ∀ q : Nat, s.heap.size ≤ q → A q := fun q h => by rw [← hAe]; exact Or.inr h
  have hS : va_S A s.heap s.heap [] := va_S.rf
  have hl := lv_entry ([.ref l0]) (n := 1) (Nat.le_of_ble_eq_true rfl)
  rw [lg_entry_eq]
  generalize (lg_sl ([.ref l0]) ++ List.replicate (1 - (lg_sl ([.ref l0])).length) Slot.unset).toArray = ls at hl ⊢
  have hl : lv_has ls 1 [(0, .ref l0)] := hl
  refine lv_aload_n hx hb dX0_init_0 rfl (lv_at hl 0 rfl) ?_
  refine W.objInit hx hb hown (hts (.methodLink RX0 3 objectInit) (by decide +kernel)) (hts (.instanceMethod objectInit) (by decide +kernel)) (hts (.code objectInit ⟨#[0xb1]⟩ 1 none) oi_) rfl (by rw [hml]; exact hl.1) rfl dX0_init_1 (Nat.le_of_ble_eq_true rfl) (Nat.le_of_ble_eq_true rfl) ?_
  refine W.eq (g2 := F0 m 4 ls []) rfl ?_
  refine lv_aload_n hx hb dX0_init_4 rfl (lv_at hl 0 rfl) ?_
  refine lv_sipush (v := 300) hx hb dX0_init_5 (by decide) ?_
  refine va_newa (a0 := (300, .inl (fun _ => 0))) (N' := 300) (atype := .int) (ty := .int) hx hb (hts (.arrayClass .int) (by decide +kernel)) rfl hK hP hD hS hA (newI 300) (by decide) (by decide) (by decide) (Nat.le_of_ble_eq_true rfl) (Nat.le_of_ble_eq_true rfl) dX0_init_8 (fun q_1 k_2 H hK hP hD hS => ?_)
  have hP : va_P (dC, dI) vwCl [(l0, .inr (0, [.null, .null, .null, .int 0])), (q_1, .inl (k_2, 300, .inl (fun _ => 0)))] H := hP
  have hD : va_D A [(l0, .inr (0, [.null, .null, .null, .int 0])), (q_1, .inl (k_2, 300, .inl (fun _ => 0)))] := hD
  have hK : va_K (dC, dI) vwCl [(k_2, .int)] s := hK
  refine W.widen (k := 1) (n := 300) (by omega) (by omega) ?_
  refine va_putF (D := (dC, dI)) (ci := 0) (v := .ref q_1) (ty := .array .int) (C := RX0) (T := TX0) (N := 4) hx hb hts iX0_ tyX0 tyX0_ok nmX0 hown hK hP hD hS 0 rfl rfl 0 (by decide) (hts (.fieldLink RX0 9 "FieldLeaves$LeafList" "numbers" "[I") (by decide +kernel)) (fun _ h9 => h9) rfl hin rfl (by decide +kernel) rfl rfl (Nat.le_of_ble_eq_true rfl) dX0_init_10 (fun H locs hP hD hS => ?_)
  have hP : va_P (dC, dI) vwCl [(l0, .inr (0, [.ref q_1, .null, .null, .int 0])), (q_1, .inl (k_2, 300, .inl (fun _ => 0)))] H := hP
  have hD : va_D A [(l0, .inr (0, [.ref q_1, .null, .null, .int 0])), (q_1, .inl (k_2, 300, .inl (fun _ => 0)))] := hD
  refine lv_aload_n hx hb dX0_init_13 rfl (lv_at hl 0 rfl) ?_
  refine lv_sipush (v := 300) hx hb dX0_init_14 (by decide) ?_
  refine va_newa (a0 := (300, .inl (fun _ => 0))) (N' := 300) (atype := .int) (ty := .int) hx hb (hts (.arrayClass .int) (by decide +kernel)) rfl hK hP hD hS hA (newI 300) (by decide) (by decide) (by decide) (Nat.le_of_ble_eq_true rfl) (Nat.le_of_ble_eq_true rfl) dX0_init_17 (fun q_3 k_4 H hK hP hD hS => ?_)
  have hP : va_P (dC, dI) vwCl [(l0, .inr (0, [.ref q_1, .null, .null, .int 0])), (q_1, .inl (k_2, 300, .inl (fun _ => 0))), (q_3, .inl (k_4, 300, .inl (fun _ => 0)))] H := hP
  have hD : va_D A [(l0, .inr (0, [.ref q_1, .null, .null, .int 0])), (q_1, .inl (k_2, 300, .inl (fun _ => 0))), (q_3, .inl (k_4, 300, .inl (fun _ => 0)))] := hD
  have hK : va_K (dC, dI) vwCl [(k_2, .int), (k_4, .int)] s := hK
  refine W.widen (k := 2) (n := 600) (by omega) (by omega) ?_
  refine va_putF (D := (dC, dI)) (ci := 0) (v := .ref q_3) (ty := .array .int) (C := RX0) (T := TX0) (N := 4) hx hb hts iX0_ tyX0 tyX0_ok nmX0 hown hK hP hD hS 0 rfl rfl 1 (by decide) (hts (.fieldLink RX0 15 "FieldLeaves$LeafList" "fields" "[I") (by decide +kernel)) (fun _ h9 => h9) rfl hin rfl (by decide +kernel) rfl rfl (Nat.le_of_ble_eq_true rfl) dX0_init_19 (fun H locs hP hD hS => ?_)
  have hP : va_P (dC, dI) vwCl [(l0, .inr (0, [.ref q_1, .ref q_3, .null, .int 0])), (q_1, .inl (k_2, 300, .inl (fun _ => 0))), (q_3, .inl (k_4, 300, .inl (fun _ => 0)))] H := hP
  have hD : va_D A [(l0, .inr (0, [.ref q_1, .ref q_3, .null, .int 0])), (q_1, .inl (k_2, 300, .inl (fun _ => 0))), (q_3, .inl (k_4, 300, .inl (fun _ => 0)))] := hD
  refine lv_aload_n hx hb dX0_init_22 rfl (lv_at hl 0 rfl) ?_
  refine lv_sipush (v := 300) hx hb dX0_init_23 (by decide) ?_
  refine va_newa (a0 := (300, .inr (.inl (fun _ => 0)))) (N' := 300) (atype := .long) (ty := .long) hx hb (hts (.arrayClass .long) (by decide +kernel)) rfl hK hP hD hS hA (newJ 300) (by decide) (by decide) (by decide) (Nat.le_of_ble_eq_true rfl) (Nat.le_of_ble_eq_true rfl) dX0_init_26 (fun q_5 k_6 H hK hP hD hS => ?_)
  have hP : va_P (dC, dI) vwCl [(l0, .inr (0, [.ref q_1, .ref q_3, .null, .int 0])), (q_1, .inl (k_2, 300, .inl (fun _ => 0))), (q_3, .inl (k_4, 300, .inl (fun _ => 0))), (q_5, .inl (k_6, 300, .inr (.inl (fun _ => 0))))] H := hP
  have hD : va_D A [(l0, .inr (0, [.ref q_1, .ref q_3, .null, .int 0])), (q_1, .inl (k_2, 300, .inl (fun _ => 0))), (q_3, .inl (k_4, 300, .inl (fun _ => 0))), (q_5, .inl (k_6, 300, .inr (.inl (fun _ => 0))))] := hD
  have hK : va_K (dC, dI) vwCl [(k_2, .int), (k_4, .int), (k_6, .long)] s := hK
  refine W.widen (k := 3) (n := 900) (by omega) (by omega) ?_
  refine va_putF (D := (dC, dI)) (ci := 0) (v := .ref q_5) (ty := .array .long) (C := RX0) (T := TX0) (N := 4) hx hb hts iX0_ tyX0 tyX0_ok nmX0 hown hK hP hD hS 0 rfl rfl 2 (by decide) (hts (.fieldLink RX0 18 "FieldLeaves$LeafList" "values" "[J") (by decide +kernel)) (fun _ h9 => h9) rfl hin rfl (by decide +kernel) rfl rfl (Nat.le_of_ble_eq_true rfl) dX0_init_28 (fun H locs hP hD hS => ?_)
  have hP : va_P (dC, dI) vwCl [(l0, .inr (0, [.ref q_1, .ref q_3, .ref q_5, .int 0])), (q_1, .inl (k_2, 300, .inl (fun _ => 0))), (q_3, .inl (k_4, 300, .inl (fun _ => 0))), (q_5, .inl (k_6, 300, .inr (.inl (fun _ => 0))))] H := hP
  have hD : va_D A [(l0, .inr (0, [.ref q_1, .ref q_3, .ref q_5, .int 0])), (q_1, .inl (k_2, 300, .inl (fun _ => 0))), (q_3, .inl (k_4, 300, .inl (fun _ => 0))), (q_5, .inl (k_6, 300, .inr (.inl (fun _ => 0))))] := hD
  refine W.widen (k := 3) (n := 900) (by decide) (by decide) ?_
  exact W.vret hx hb hr (fun t ht hW => ⟨⟨(q_1, q_3, q_5), rfl, trivial, k_2, k_4, k_6, by rw [ht]; exact hP, va_K.moved hW.alike hK, hD⟩, hS.F ht⟩) hS.2.2 dX0_init_31
