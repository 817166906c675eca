set_option maxRecDepth 100000 in
set_option maxHeartbeats 4000000 in
theorem c_X2_isSlot (l : Launch) (dC : Nat → ClassId) (dI : Nat → Nat → Nat) (TT : Nat × Nat × Nat) (sz : Nat) (s0 : Int32) : Met l yX2_isSlot wsX2_isSlot ({ frames := 0, cells := 0, slots := 0, locals := 0 } : Room) (va_Pc [.int s0] (pr dC dI [] [] [] sz TT)) (va_Qi (fun (r : Int32) (u : Unit) => bo r (0 ≤ s0.toInt ∧ s0.toInt < 12)) (fun _ _ => True) (va_A [] sz)) 0 0 (va_A [] sz) := by
  refine Met.ofW (cc := cX2_isSlot) (maxL := 1) (ret := (some .boolean)) (by decide) rfl ?_
  intro p e s m args below meth c s₁ B hml hv
  obtain ⟨rfl, hsz, hP, hK, hD0, hst⟩ := hv
  have hx := B.exec
  have hb := B.bytes
  have hr := B.returns
  have hts := atoms_spec (ws := wsX2_isSlot) B.pre
  have hown : s.vm.findClass RX2 = some m.cls := findClass_of_methodNamed B.named
  have hlocks := B.notSynchronized
  subst hsz
  have hD := hD0.self (sz := s.heap.size)
  generalize hAe : va_A [] s.heap.size = A at hD hst ⊢
  have hA : ∀ q : Nat, s.heap.size ≤ q → A q := fun q h => by rw [← hAe]; exact Or.inr h
  have hS : va_S A s.heap s.heap [] := va_S.rf
  have hl := lv_entry ([.int s0]) (n := 1) (Nat.le_of_ble_eq_true rfl)
  rw [lg_entry_eq]
  generalize (lg_sl ([.int s0]) ++ List.replicate (1 - (lg_sl ([.int s0])).length) Slot.unset).toArray = ls at hl ⊢
  have hl : lv_has ls 1 [(0, .int s0)] := hl
  have k0_ : Int32.toInt 0 = 0 := by decide
  have k1_ : Int32.toInt 1 = 1 := by decide
  have k12_ : Int32.toInt 12 = 12 := by decide
  refine lv_iload_n hx hb dX2_isSlot_0 rfl (lv_at hl 0 rfl) ?_
  refine lv_if_lt (tgt := 14) hx hb dX2_isSlot_1 (by decide) (fun c_1 => ?_) (fun c_1 => ?_)
  · have c_1 := Int32.lt_iff_toInt_lt.mp c_1
    refine lv_iconst (v := 0) hx hb dX2_isSlot_14 (by decide) ?_
    exact W.zret (v := 0) hx hb hr rfl (fun t ht hW => ⟨⟨0, (), rfl, Or.inr ⟨rfl, by omega⟩, trivial⟩, hS.F ht⟩) hS.2.2 dX2_isSlot_15
  · have c_1 := mt Int32.lt_iff_toInt_lt.mpr c_1
    refine lv_iload_n hx hb dX2_isSlot_4 rfl (lv_at hl 0 rfl) ?_
    refine lv_bipush (v := 12) hx hb dX2_isSlot_5 (by decide) ?_
    refine lv_icmp_ge (tgt := 14) hx hb dX2_isSlot_7 (by decide) (fun c_2 => ?_) (fun c_2 => ?_)
    · have c_2 := Int32.le_iff_toInt_le.mp c_2
      refine lv_iconst (v := 0) hx hb dX2_isSlot_14 (by decide) ?_
      exact W.zret (v := 0) hx hb hr rfl (fun t ht hW => ⟨⟨0, (), rfl, Or.inr ⟨rfl, by omega⟩, trivial⟩, hS.F ht⟩) hS.2.2 dX2_isSlot_15
    · have c_2 := mt Int32.le_iff_toInt_le.mpr c_2
      refine lv_iconst (v := 1) hx hb dX2_isSlot_10 (by decide) ?_
      refine lv_goto (tgt := 15) hx hb dX2_isSlot_11 (by decide) ?_
      exact W.zret (v := 1) hx hb hr rfl (fun t ht hW => ⟨⟨1, (), rfl, Or.inl ⟨rfl, by omega⟩, trivial⟩, hS.F ht⟩) hS.2.2 dX2_isSlot_15
set_option maxRecDepth 100000 in
set_option maxHeartbeats 4000000 in
theorem c_X2_isField (l : Launch) (dC : Nat → ClassId) (dI : Nat → Nat → Nat) (TT : Nat × Nat × Nat) (sz : Nat) (f0 : Int32) : Met l yX2_isField wsX2_isField ({ frames := 0, cells := 0, slots := 0, locals := 0 } : Room) (va_Pc [.int f0] (pr dC dI [] [] [] sz TT)) (va_Qi (fun (r : Int32) (u : Unit) => bo r (0 ≤ f0.toInt ∧ f0.toInt < 17)) (fun _ _ => True) (va_A [] sz)) 0 0 (va_A [] sz) := by
  refine Met.ofW (cc := cX2_isField) (maxL := 1) (ret := (some .boolean)) (by decide) rfl ?_
  intro p e s m args below meth c s₁ B hml hv
  obtain ⟨rfl, hsz, hP, hK, hD0, hst⟩ := hv
  have hx := B.exec
  have hb := B.bytes
  have hr := B.returns
  have hts := atoms_spec (ws := wsX2_isField) B.pre
  have hown : s.vm.findClass RX2 = some m.cls := findClass_of_methodNamed B.named
  have hlocks := B.notSynchronized
  subst hsz
  have hD := hD0.self (sz := s.heap.size)
  generalize hAe : va_A [] s.heap.size = A at hD hst ⊢
  have hA : ∀ q : Nat, s.heap.size ≤ q → A q := fun q h => by rw [← hAe]; exact Or.inr h
  have hS : va_S A s.heap s.heap [] := va_S.rf
  have hl := lv_entry ([.int f0]) (n := 1) (Nat.le_of_ble_eq_true rfl)
  rw [lg_entry_eq]
  generalize (lg_sl ([.int f0]) ++ List.replicate (1 - (lg_sl ([.int f0])).length) Slot.unset).toArray = ls at hl ⊢
  have hl : lv_has ls 1 [(0, .int f0)] := hl
  have k0_ : Int32.toInt 0 = 0 := by decide
  have k1_ : Int32.toInt 1 = 1 := by decide
  have k17_ : Int32.toInt 17 = 17 := by decide
  refine lv_iload_n hx hb dX2_isField_0 rfl (lv_at hl 0 rfl) ?_
  refine lv_if_lt (tgt := 14) hx hb dX2_isField_1 (by decide) (fun c_1 => ?_) (fun c_1 => ?_)
  · have c_1 := Int32.lt_iff_toInt_lt.mp c_1
    refine lv_iconst (v := 0) hx hb dX2_isField_14 (by decide) ?_
    exact W.zret (v := 0) hx hb hr rfl (fun t ht hW => ⟨⟨0, (), rfl, Or.inr ⟨rfl, by omega⟩, trivial⟩, hS.F ht⟩) hS.2.2 dX2_isField_15
  · have c_1 := mt Int32.lt_iff_toInt_lt.mpr c_1
    refine lv_iload_n hx hb dX2_isField_4 rfl (lv_at hl 0 rfl) ?_
    refine lv_bipush (v := 17) hx hb dX2_isField_5 (by decide) ?_
    refine lv_icmp_ge (tgt := 14) hx hb dX2_isField_7 (by decide) (fun c_2 => ?_) (fun c_2 => ?_)
    · have c_2 := Int32.le_iff_toInt_le.mp c_2
      refine lv_iconst (v := 0) hx hb dX2_isField_14 (by decide) ?_
      exact W.zret (v := 0) hx hb hr rfl (fun t ht hW => ⟨⟨0, (), rfl, Or.inr ⟨rfl, by omega⟩, trivial⟩, hS.F ht⟩) hS.2.2 dX2_isField_15
    · have c_2 := mt Int32.le_iff_toInt_le.mpr c_2
      refine lv_iconst (v := 1) hx hb dX2_isField_10 (by decide) ?_
      refine lv_goto (tgt := 15) hx hb dX2_isField_11 (by decide) ?_
      exact W.zret (v := 1) hx hb hr rfl (fun t ht hW => ⟨⟨1, (), rfl, Or.inl ⟨rfl, by omega⟩, trivial⟩, hS.F ht⟩) hS.2.2 dX2_isField_15
set_option maxRecDepth 100000 in
set_option maxHeartbeats 4000000 in
theorem c_X2_isLinkField (l : Launch) (dC : Nat → ClassId) (dI : Nat → Nat → Nat) (TT : Nat × Nat × Nat) (sz : Nat) (f0 : Int32) : Met l yX2_isLinkField wsX2_isLinkField ({ frames := 1, cells := 0, slots := 0, locals := 20 } : Room) (va_Pc [.int f0] (pr dC dI [] [] [] sz TT)) (va_Qi (fun (r : Int32) (u : Unit) => bo r (f0.toInt = 8 ∨ f0.toInt = 11 ∨ f0.toInt = 15)) (fun _ _ => True) (va_A [] sz)) 0 0 (va_A [] sz) := by
  refine Met.ofW (cc := cX2_isLinkField) (maxL := 1) (ret := (some .boolean)) (by decide) rfl ?_
  intro p e s m args below meth c s₁ B hml hv
  obtain ⟨rfl, hsz, hP, hK, hD0, hst⟩ := hv
  have hx := B.exec
  have hb := B.bytes
  have hr := B.returns
  have hts := atoms_spec (ws := wsX2_isLinkField) B.pre
  have hown : s.vm.findClass RX2 = some m.cls := findClass_of_methodNamed B.named
  have hlocks := B.notSynchronized
  subst hsz
  have hD := hD0.self (sz := s.heap.size)
  generalize hAe : va_A [] s.heap.size = A at hD hst ⊢
  have hA : ∀ q : Nat, s.heap.size ≤ q → A q := fun q h => by rw [← hAe]; exact Or.inr h
  have hS : va_S A s.heap s.heap [] := va_S.rf
  have hl := lv_entry ([.int f0]) (n := 1) (Nat.le_of_ble_eq_true rfl)
  rw [lg_entry_eq]
  generalize (lg_sl ([.int f0]) ++ List.replicate (1 - (lg_sl ([.int f0])).length) Slot.unset).toArray = ls at hl ⊢
  have hl : lv_has ls 1 [(0, .int f0)] := hl
  have k0_ : Int32.toInt 0 = 0 := by decide
  have k1_ : Int32.toInt 1 = 1 := by decide
  have k8_ : Int32.toInt 8 = 8 := by decide
  refine lv_iload_n hx hb dX2_isLinkField_0 rfl (lv_at hl 0 rfl) ?_
  refine va_calli (va_runS (As := [.int f0]) (rest := []) ⟨hx, hb, hml, hown, hts⟩ (c_X2_isField l dC dI TT s.heap.size f0) (va_cwS 1 hts gX2_isLinkField_X2_isField rfl rfl rfl (by decide +kernel) ⟨Nat.le_of_ble_eq_true rfl, Nat.le_of_ble_eq_true rfl⟩) (pr_S (ws := []) (wA := []) (tys := []) (hP.sub [] rfl) (hK.sub [] rfl) vd_nil hst hS (ro_free hS hA)) rfl rfl hl.1 rfl (lv_room (Nat.le_of_ble_eq_true rfl)) dX2_isLinkField_1 ⟨Nat.le_of_ble_eq_true rfl, Nat.le_of_ble_eq_true rfl⟩) hS (fun q _ h => (ro_free hS hA) q h) (ro_free hS hA) (fun r_1 u t H1 locs ht hvm hw hB hz1 hk1 hS => ?_)
  have hP := ro_keep hP hk1
  generalize H1 = H at hP hS ⊢
  rcases hw with ⟨rfl, hp_2⟩ | ⟨rfl, hp_2⟩
  · refine lv_if_eq (tgt := 21) hx hb dX2_isLinkField_4 (by decide) (fun c9 => absurd c9 (by decide)) (fun _ => ?_)
    refine va_gets (v := .ref TT.1) hx hb hst.zF hS hown (hts (.fieldLink RX2 161 "FieldLeaves" "FORM" "[I") (by decide +kernel)) (fun _ h9 => h9) dX2_isLinkField_7 ?_
    refine lv_iload_n hx hb dX2_isLinkField_10 rfl (lv_at hl 0 rfl) ?_
    have h_3 : vp_in f0 17 := (vp_in_iff.mpr (by constructor <;> omega))
    refine va_ti hx hb hst.tF hS h_3 (v := .int (FORMt (Int32.toNatClampNeg f0))) rfl dX2_isLinkField_11 ?_
    have fh_3 := FORMt_is h_3
    refine lv_bipush (v := 8) hx hb dX2_isLinkField_12 (by decide) ?_
    refine lv_icmp_ne (tgt := 21) hx hb dX2_isLinkField_14 (by decide) (fun c_4 => ?_) (fun c_4 => ?_)
    · have c_4 := mt Int32.toInt_inj.mp c_4
      refine lv_iconst (v := 0) hx hb dX2_isLinkField_21 (by decide) ?_
      exact W.zret (v := 0) hx hb hr rfl (fun t ht hW => ⟨⟨0, (), rfl, Or.inr ⟨rfl, by omega⟩, trivial⟩, hS.F ht⟩) hS.2.2 dX2_isLinkField_22
    · have c_4 := congrArg Int32.toInt c_4
      refine lv_iconst (v := 1) hx hb dX2_isLinkField_17 (by decide) ?_
      refine lv_goto (tgt := 22) hx hb dX2_isLinkField_18 (by decide) ?_
      exact W.zret (v := 1) hx hb hr rfl (fun t ht hW => ⟨⟨1, (), rfl, Or.inl ⟨rfl, by omega⟩, trivial⟩, hS.F ht⟩) hS.2.2 dX2_isLinkField_22
  · refine lv_if_eq (tgt := 21) hx hb dX2_isLinkField_4 (by decide) (fun _ => ?_) (fun c9 => absurd c9 (by decide))
    refine lv_iconst (v := 0) hx hb dX2_isLinkField_21 (by decide) ?_
    exact W.zret (v := 0) hx hb hr rfl (fun t ht hW => ⟨⟨0, (), rfl, Or.inr ⟨rfl, by omega⟩, trivial⟩, hS.F ht⟩) hS.2.2 dX2_isLinkField_22
set_option maxRecDepth 100000 in
set_option maxHeartbeats 4000000 in
theorem c_X2_isValueField (l : Launch) (dC : Nat → ClassId) (dI : Nat → Nat → Nat) (TT : Nat × Nat × Nat) (sz : Nat) (f0 : Int32) : Met l yX2_isValueField wsX2_isValueField ({ frames := 1, cells := 0, slots := 0, locals := 20 } : Room) (va_Pc [.int f0] (pr dC dI [] [] [] sz TT)) (va_Qi (fun (r : Int32) (u : Unit) => bo r (0 ≤ f0.toInt ∧ f0.toInt < 17 ∧ ¬ f0.toInt = 8 ∧ ¬ f0.toInt = 9 ∧ ¬ f0.toInt = 11 ∧ ¬ f0.toInt = 15)) (fun _ _ => True) (va_A [] sz)) 0 0 (va_A [] sz) := by
  refine Met.ofW (cc := cX2_isValueField) (maxL := 1) (ret := (some .boolean)) (by decide) rfl ?_
  intro p e s m args below meth c s₁ B hml hv
  obtain ⟨rfl, hsz, hP, hK, hD0, hst⟩ := hv
  have hx := B.exec
  have hb := B.bytes
  have hr := B.returns
  have hts := atoms_spec (ws := wsX2_isValueField) B.pre
  have hown : s.vm.findClass RX2 = some m.cls := findClass_of_methodNamed B.named
  have hlocks := B.notSynchronized
  subst hsz
  have hD := hD0.self (sz := s.heap.size)
  generalize hAe : va_A [] s.heap.size = A at hD hst ⊢
  have hA : ∀ q : Nat, s.heap.size ≤ q → A q := fun q h => by rw [← hAe]; exact Or.inr h
  have hS : va_S A s.heap s.heap [] := va_S.rf
  have hl := lv_entry ([.int f0]) (n := 1) (Nat.le_of_ble_eq_true rfl)
  rw [lg_entry_eq]
  generalize (lg_sl ([.int f0]) ++ List.replicate (1 - (lg_sl ([.int f0])).length) Slot.unset).toArray = ls at hl ⊢
  have hl : lv_has ls 1 [(0, .int f0)] := hl
  have k0_ : Int32.toInt 0 = 0 := by decide
  have k1_ : Int32.toInt 1 = 1 := by decide
  have k8_ : Int32.toInt 8 = 8 := by decide
  have k9_ : Int32.toInt 9 = 9 := by decide
  refine lv_iload_n hx hb dX2_isValueField_0 rfl (lv_at hl 0 rfl) ?_
  refine va_calli (va_runS (As := [.int f0]) (rest := []) ⟨hx, hb, hml, hown, hts⟩ (c_X2_isField l dC dI TT s.heap.size f0) (va_cwS 1 hts gX2_isValueField_X2_isField rfl rfl rfl (by decide +kernel) ⟨Nat.le_of_ble_eq_true rfl, Nat.le_of_ble_eq_true rfl⟩) (pr_S (ws := []) (wA := []) (tys := []) (hP.sub [] rfl) (hK.sub [] rfl) vd_nil hst hS (ro_free hS hA)) rfl rfl hl.1 rfl (lv_room (Nat.le_of_ble_eq_true rfl)) dX2_isValueField_1 ⟨Nat.le_of_ble_eq_true rfl, Nat.le_of_ble_eq_true rfl⟩) hS (fun q _ h => (ro_free hS hA) q h) (ro_free hS hA) (fun r_1 u t H1 locs ht hvm hw hB hz1 hk1 hS => ?_)
  have hP := ro_keep hP hk1
  generalize H1 = H at hP hS ⊢
  rcases hw with ⟨rfl, hp_2⟩ | ⟨rfl, hp_2⟩
  · refine lv_if_eq (tgt := 31) hx hb dX2_isValueField_4 (by decide) (fun c9 => absurd c9 (by decide)) (fun _ => ?_)
    refine va_gets (v := .ref TT.1) hx hb hst.zF hS hown (hts (.fieldLink RX2 161 "FieldLeaves" "FORM" "[I") (by decide +kernel)) (fun _ h9 => h9) dX2_isValueField_7 ?_
    refine lv_iload_n hx hb dX2_isValueField_10 rfl (lv_at hl 0 rfl) ?_
    have h_3 : vp_in f0 17 := (vp_in_iff.mpr (by constructor <;> omega))
    refine va_ti hx hb hst.tF hS h_3 (v := .int (FORMt (Int32.toNatClampNeg f0))) rfl dX2_isValueField_11 ?_
    have fh_3 := FORMt_is h_3
    refine lv_bipush (v := 8) hx hb dX2_isValueField_12 (by decide) ?_
    refine lv_icmp_eq (tgt := 31) hx hb dX2_isValueField_14 (by decide) (fun c_4 => ?_) (fun c_4 => ?_)
    · have c_4 := congrArg Int32.toInt c_4
      refine lv_iconst (v := 0) hx hb dX2_isValueField_31 (by decide) ?_
      exact W.zret (v := 0) hx hb hr rfl (fun t ht hW => ⟨⟨0, (), rfl, Or.inr ⟨rfl, by omega⟩, trivial⟩, hS.F ht⟩) hS.2.2 dX2_isValueField_32
    · have c_4 := mt Int32.toInt_inj.mp c_4
      refine va_gets (v := .ref TT.1) hx hb hst.zF hS hown (hts (.fieldLink RX2 161 "FieldLeaves" "FORM" "[I") (by decide +kernel)) (fun _ h9 => h9) dX2_isValueField_17 ?_
      refine lv_iload_n hx hb dX2_isValueField_20 rfl (lv_at hl 0 rfl) ?_
      have h_5 : vp_in f0 17 := (vp_in_iff.mpr (by constructor <;> omega))
      refine va_ti hx hb hst.tF hS h_5 (v := .int (FORMt (Int32.toNatClampNeg f0))) rfl dX2_isValueField_21 ?_
      have fh_5 := FORMt_is h_5
      refine lv_bipush (v := 9) hx hb dX2_isValueField_22 (by decide) ?_
      refine lv_icmp_eq (tgt := 31) hx hb dX2_isValueField_24 (by decide) (fun c_6 => ?_) (fun c_6 => ?_)
      · have c_6 := congrArg Int32.toInt c_6
        refine lv_iconst (v := 0) hx hb dX2_isValueField_31 (by decide) ?_
        exact W.zret (v := 0) hx hb hr rfl (fun t ht hW => ⟨⟨0, (), rfl, Or.inr ⟨rfl, by omega⟩, trivial⟩, hS.F ht⟩) hS.2.2 dX2_isValueField_32
      · have c_6 := mt Int32.toInt_inj.mp c_6
        refine lv_iconst (v := 1) hx hb dX2_isValueField_27 (by decide) ?_
        refine lv_goto (tgt := 32) hx hb dX2_isValueField_28 (by decide) ?_
        exact W.zret (v := 1) hx hb hr rfl (fun t ht hW => ⟨⟨1, (), rfl, Or.inl ⟨rfl, by omega⟩, trivial⟩, hS.F ht⟩) hS.2.2 dX2_isValueField_32
  · refine lv_if_eq (tgt := 31) hx hb dX2_isValueField_4 (by decide) (fun _ => ?_) (fun c9 => absurd c9 (by decide))
    refine lv_iconst (v := 0) hx hb dX2_isValueField_31 (by decide) ?_
    exact W.zret (v := 0) hx hb hr rfl (fun t ht hW => ⟨⟨0, (), rfl, Or.inr ⟨rfl, by omega⟩, trivial⟩, hS.F ht⟩) hS.2.2 dX2_isValueField_32
set_option maxRecDepth 100000 in
set_option maxHeartbeats 4000000 in
theorem c_X2_makerTakes (l : Launch) (dC : Nat → ClassId) (dI : Nat → Nat → Nat) (TT : Nat × Nat × Nat) (sz : Nat) (c0 : Int32) (n0 : Int32) : Met l yX2_makerTakes wsX2_makerTakes ({ frames := 0, cells := 0, slots := 0, locals := 0 } : Room) (va_Pc [.int c0, .int n0] (pr dC dI [] [] [] sz TT)) (va_Qi (fun (r : Int32) (u : Unit) => bo r (¬ c0.toInt = 2 ∨ (0 ≤ n0.toInt ∧ n0.toInt ≤ 1000))) (fun _ _ => True) (va_A [] sz)) 0 0 (va_A [] sz) := by
  refine Met.ofW (cc := cX2_makerTakes) (maxL := 2) (ret := (some .boolean)) (by decide) rfl ?_
  intro p e s m args below meth c s₁ B hml hv
  obtain ⟨rfl, hsz, hP, hK, hD0, hst⟩ := hv
  have hx := B.exec
  have hb := B.bytes
  have hr := B.returns
  have hts := atoms_spec (ws := wsX2_makerTakes) B.pre
  have hown : s.vm.findClass RX2 = some m.cls := findClass_of_methodNamed B.named
  have hlocks := B.notSynchronized
  subst hsz
  have hD := hD0.self (sz := s.heap.size)
  generalize hAe : va_A [] s.heap.size = A at hD hst ⊢
  have hA : ∀ q : Nat, s.heap.size ≤ q → A q := fun q h => by rw [← hAe]; exact Or.inr h
  have hS : va_S A s.heap s.heap [] := va_S.rf
  have hl := lv_entry ([.int c0, .int n0]) (n := 2) (Nat.le_of_ble_eq_true rfl)
  rw [lg_entry_eq]
  generalize (lg_sl ([.int c0, .int n0]) ++ List.replicate (2 - (lg_sl ([.int c0, .int n0])).length) Slot.unset).toArray = ls at hl ⊢
  have hl : lv_has ls 2 [(0, .int c0), (1, .int n0)] := hl
  have k0_ : Int32.toInt 0 = 0 := by decide
  have k1_ : Int32.toInt 1 = 1 := by decide
  have k2_ : Int32.toInt 2 = 2 := by decide
  have k1000_ : Int32.toInt 1000 = 1000 := by decide
  refine lv_iload_n hx hb dX2_makerTakes_0 rfl (lv_at hl 0 rfl) ?_
  refine lv_iconst (v := 2) hx hb dX2_makerTakes_1 (by decide) ?_
  refine lv_icmp_ne (tgt := 16) hx hb dX2_makerTakes_2 (by decide) (fun c_1 => ?_) (fun c_1 => ?_)
  · have c_1 := mt Int32.toInt_inj.mp c_1
    refine lv_iconst (v := 1) hx hb dX2_makerTakes_16 (by decide) ?_
    refine lv_goto (tgt := 21) hx hb dX2_makerTakes_17 (by decide) ?_
    exact W.zret (v := 1) hx hb hr rfl (fun t ht hW => ⟨⟨1, (), rfl, Or.inl ⟨rfl, by omega⟩, trivial⟩, hS.F ht⟩) hS.2.2 dX2_makerTakes_21
  · have c_1 := congrArg Int32.toInt c_1
    refine lv_iload_n hx hb dX2_makerTakes_5 rfl (lv_at hl 1 rfl) ?_
    refine lv_if_lt (tgt := 20) hx hb dX2_makerTakes_6 (by decide) (fun c_2 => ?_) (fun c_2 => ?_)
    · have c_2 := Int32.lt_iff_toInt_lt.mp c_2
      refine lv_iconst (v := 0) hx hb dX2_makerTakes_20 (by decide) ?_
      exact W.zret (v := 0) hx hb hr rfl (fun t ht hW => ⟨⟨0, (), rfl, Or.inr ⟨rfl, by omega⟩, trivial⟩, hS.F ht⟩) hS.2.2 dX2_makerTakes_21
    · have c_2 := mt Int32.lt_iff_toInt_lt.mpr c_2
      refine lv_iload_n hx hb dX2_makerTakes_9 rfl (lv_at hl 1 rfl) ?_
      refine lv_sipush (v := 1000) hx hb dX2_makerTakes_10 (by decide) ?_
      refine lv_icmp_gt (tgt := 20) hx hb dX2_makerTakes_13 (by decide) (fun c_3 => ?_) (fun c_3 => ?_)
      · have c_3 := Int32.lt_iff_toInt_lt.mp c_3
        refine lv_iconst (v := 0) hx hb dX2_makerTakes_20 (by decide) ?_
        exact W.zret (v := 0) hx hb hr rfl (fun t ht hW => ⟨⟨0, (), rfl, Or.inr ⟨rfl, by omega⟩, trivial⟩, hS.F ht⟩) hS.2.2 dX2_makerTakes_21
      · have c_3 := mt Int32.lt_iff_toInt_lt.mpr c_3
        refine lv_iconst (v := 1) hx hb dX2_makerTakes_16 (by decide) ?_
        refine lv_goto (tgt := 21) hx hb dX2_makerTakes_17 (by decide) ?_
        exact W.zret (v := 1) hx hb hr rfl (fun t ht hW => ⟨⟨1, (), rfl, Or.inl ⟨rfl, by omega⟩, trivial⟩, hS.F ht⟩) hS.2.2 dX2_makerTakes_21
set_option maxRecDepth 100000 in
set_option maxHeartbeats 4000000 in
theorem c_X2_failureAs_null (l : Launch) (dC : Nat → ClassId) (dI : Nat → Nat → Nat) (TT : Nat × Nat × Nat) (sz : Nat) (w0 : Int32) : Met l yX2_failureAs wsX2_failureAs ({ frames := 0, cells := 0, slots := 0, locals := 0 } : Room) (va_Pc [.null, .int w0] (pr dC dI [] [] [] sz TT)) (va_Qi (fun (r : Int32) (u : Unit) => r = (-11)) (fun _ _ => True) (va_A [] sz)) 0 0 (va_A [] sz) := by
  refine Met.ofW (cc := cX2_failureAs) (maxL := 2) (ret := (some .int)) (by decide) rfl ?_
  intro p e s m args below meth c s₁ B hml hv
  obtain ⟨rfl, hsz, hP, hK, hD0, hst⟩ := hv
  have hx := B.exec
  have hb := B.bytes
  have hr := B.returns
  have hts := atoms_spec (ws := wsX2_failureAs) B.pre
  have hown : s.vm.findClass RX2 = some m.cls := findClass_of_methodNamed B.named
  have hlocks := B.notSynchronized
  subst hsz
  have hD := hD0.self (sz := s.heap.size)
  generalize hAe : va_A [] s.heap.size = A at hD hst ⊢
  have hA : ∀ q : Nat, s.heap.size ≤ q → A q := fun q h => by rw [← hAe]; exact Or.inr h
  have hS : va_S A s.heap s.heap [] := va_S.rf
  have hl := lv_entry ([.null, .int w0]) (n := 2) (Nat.le_of_ble_eq_true rfl)
  rw [lg_entry_eq]
  generalize (lg_sl ([.null, .int w0]) ++ List.replicate (2 - (lg_sl ([.null, .int w0])).length) Slot.unset).toArray = ls at hl ⊢
  have hl : lv_has ls 2 [(0, .null), (1, .int w0)] := hl
  have km11_ : Int32.toInt (-11) = -11 := by decide
  refine lv_aload_nN hx hb dX2_failureAs_0 rfl (lv_at hl 0 rfl) ?_
  refine lv_ifnonnullN hx hb dX2_failureAs_1 ?_
  refine lv_bipush (v := (-11)) hx hb dX2_failureAs_4 (by decide) ?_
  exact W.iret (v := (-11)) hx hb hr (fun t ht hW => ⟨⟨(-11), (), rfl, rfl, trivial⟩, hS.F ht⟩) hS.2.2 dX2_failureAs_6
set_option maxRecDepth 100000 in
set_option maxHeartbeats 4000000 in
theorem c_X2_failureOfRow_null (l : Launch) (dC : Nat → ClassId) (dI : Nat → Nat → Nat) (TT : Nat × Nat × Nat) (sz : Nat)  : Met l yX2_failureOfRow wsX2_failureOfRow ({ frames := 1, cells := 0, slots := 0, locals := 21 } : Room) (va_Pc [.null] (pr dC dI [] [] [] sz TT)) (va_Qi (fun (r : Int32) (u : Unit) => r = (-11)) (fun _ _ => True) (va_A [] sz)) 0 0 (va_A [] sz) := by
  refine Met.ofW (cc := cX2_failureOfRow) (maxL := 2) (ret := (some .int)) (by decide) rfl ?_
  intro p e s m args below meth c s₁ B hml hv
  obtain ⟨rfl, hsz, hP, hK, hD0, hst⟩ := hv
  have hx := B.exec
  have hb := B.bytes
  have hr := B.returns
  have hts := atoms_spec (ws := wsX2_failureOfRow) B.pre
  have hown : s.vm.findClass RX2 = some m.cls := findClass_of_methodNamed B.named
  have hlocks := B.notSynchronized
  subst hsz
  have hD := hD0.self (sz := s.heap.size)
  generalize hAe : va_A [] s.heap.size = A at hD hst ⊢
  have hA : ∀ q : Nat, s.heap.size ≤ q → A q := fun q h => by rw [← hAe]; exact Or.inr h
  have hS : va_S A s.heap s.heap [] := va_S.rf
  have hl := lv_entry ([.null]) (n := 2) (Nat.le_of_ble_eq_true rfl)
  rw [lg_entry_eq]
  generalize (lg_sl ([.null]) ++ List.replicate (2 - (lg_sl ([.null])).length) Slot.unset).toArray = ls at hl ⊢
  have hl : lv_has ls 2 [(0, .null)] := hl
  have km11_ : Int32.toInt (-11) = -11 := by decide
  refine lv_aload_nN hx hb dX2_failureOfRow_0 rfl (lv_at hl 0 rfl) ?_
  refine lv_iconst (v := 0) hx hb dX2_failureOfRow_1 (by decide) ?_
  refine va_calli (va_runS (As := [.null, .int 0]) (rest := []) ⟨hx, hb, hml, hown, hts⟩ (c_X2_failureAs_null l dC dI TT s.heap.size 0) (va_cwS 2 hts gX2_failureOfRow_X2_failureAs rfl rfl rfl (by decide +kernel) ⟨Nat.le_of_ble_eq_true rfl, Nat.le_of_ble_eq_true rfl⟩) (pr_S (ws := []) (wA := []) (tys := []) (hP.sub [] rfl) (hK.sub [] rfl) vd_nil hst hS (ro_free hS hA)) rfl rfl hl.1 rfl (lv_room (Nat.le_of_ble_eq_true rfl)) dX2_failureOfRow_2 ⟨Nat.le_of_ble_eq_true rfl, Nat.le_of_ble_eq_true rfl⟩) hS (fun q _ h => (ro_free hS hA) q h) (ro_free hS hA) (fun r_1 u t H1 locs ht hvm hw hB hz1 hk1 hS => ?_)
  have hP := ro_keep hP hk1
  generalize H1 = H at hP hS ⊢
  subst hw
  refine lv_istore_n (lv' := [(1, .int (-11)), (0, .null)]) hx hb dX2_failureOfRow_5 rfl hl (by decide) rfl (fun ls hl => ?_)
  refine lv_iload_n hx hb dX2_failureOfRow_6 rfl (lv_at hl 0 rfl) ?_
  refine lv_if_eq (tgt := 12) hx hb dX2_failureOfRow_7 (by decide) (fun c9 => absurd c9 (by decide)) (fun _ => ?_)
  refine lv_iload_n hx hb dX2_failureOfRow_10 rfl (lv_at hl 0 rfl) ?_
  exact W.iret (v := (-11)) hx hb hr (fun t ht hW => ⟨⟨(-11), (), rfl, rfl, trivial⟩, hS.F ht⟩) hS.2.2 dX2_failureOfRow_11
set_option maxRecDepth 100000 in
set_option maxHeartbeats 4000000 in
theorem c_X2_thrown_null (l : Launch) (dC : Nat → ClassId) (dI : Nat → Nat → Nat) (TT : Nat × Nat × Nat) (sz : Nat)  : Met l yX2_thrown wsX2_thrown ({ frames := 1, cells := 0, slots := 0, locals := 21 } : Room) (va_Pc [.null] (pr dC dI [] [] [] sz TT)) (va_Qi (fun (r : Int32) (u : Unit) => r = (-11)) (fun _ _ => True) (va_A [] sz)) 0 0 (va_A [] sz) := by
  refine Met.ofW (cc := cX2_thrown) (maxL := 2) (ret := (some .int)) (by decide) rfl ?_
  intro p e s m args below meth c s₁ B hml hv
  obtain ⟨rfl, hsz, hP, hK, hD0, hst⟩ := hv
  have hx := B.exec
  have hb := B.bytes
  have hr := B.returns
  have hts := atoms_spec (ws := wsX2_thrown) B.pre
  have hown : s.vm.findClass RX2 = some m.cls := findClass_of_methodNamed B.named
  have hlocks := B.notSynchronized
  subst hsz
  have hD := hD0.self (sz := s.heap.size)
  generalize hAe : va_A [] s.heap.size = A at hD hst ⊢
  have hA : ∀ q : Nat, s.heap.size ≤ q → A q := fun q h => by rw [← hAe]; exact Or.inr h
  have hS : va_S A s.heap s.heap [] := va_S.rf
  have hl := lv_entry ([.null]) (n := 2) (Nat.le_of_ble_eq_true rfl)
  rw [lg_entry_eq]
  generalize (lg_sl ([.null]) ++ List.replicate (2 - (lg_sl ([.null])).length) Slot.unset).toArray = ls at hl ⊢
  have hl : lv_has ls 2 [(0, .null)] := hl
  have km11_ : Int32.toInt (-11) = -11 := by decide
  refine lv_aload_nN hx hb dX2_thrown_0 rfl (lv_at hl 0 rfl) ?_
  refine lv_iconst (v := 4) hx hb dX2_thrown_1 (by decide) ?_
  refine va_calli (va_runS (As := [.null, .int 4]) (rest := []) ⟨hx, hb, hml, hown, hts⟩ (c_X2_failureAs_null l dC dI TT s.heap.size 4) (va_cwS 2 hts gX2_thrown_X2_failureAs rfl rfl rfl (by decide +kernel) ⟨Nat.le_of_ble_eq_true rfl, Nat.le_of_ble_eq_true rfl⟩) (pr_S (ws := []) (wA := []) (tys := []) (hP.sub [] rfl) (hK.sub [] rfl) vd_nil hst hS (ro_free hS hA)) rfl rfl hl.1 rfl (lv_room (Nat.le_of_ble_eq_true rfl)) dX2_thrown_2 ⟨Nat.le_of_ble_eq_true rfl, Nat.le_of_ble_eq_true rfl⟩) hS (fun q _ h => (ro_free hS hA) q h) (ro_free hS hA) (fun r_1 u t H1 locs ht hvm hw hB hz1 hk1 hS => ?_)
  have hP := ro_keep hP hk1
  generalize H1 = H at hP hS ⊢
  subst hw
  refine lv_istore_n (lv' := [(1, .int (-11)), (0, .null)]) hx hb dX2_thrown_5 rfl hl (by decide) rfl (fun ls hl => ?_)
  refine lv_iload_n hx hb dX2_thrown_6 rfl (lv_at hl 0 rfl) ?_
  refine lv_if_eq (tgt := 14) hx hb dX2_thrown_7 (by decide) (fun c9 => absurd c9 (by decide)) (fun _ => ?_)
  refine lv_iload_n hx hb dX2_thrown_10 rfl (lv_at hl 0 rfl) ?_
  refine lv_goto (tgt := 22) hx hb dX2_thrown_11 (by decide) ?_
  exact W.iret (v := (-11)) hx hb hr (fun t ht hW => ⟨⟨(-11), (), rfl, rfl, trivial⟩, hS.F ht⟩) hS.2.2 dX2_thrown_22
