set_option maxRecDepth 100000 in
set_option maxHeartbeats 4000000 in
theorem c_X3_in (l : Launch) (dC : Nat → ClassId) (dI : Nat → Nat → Nat) (TT : Nat × Nat × Nat) (sz : Nat) (v0 : Int64) (lo : Int64) (hi : Int64) : Met l yX3_in wsX3_in ({ frames := 0, cells := 0, slots := 0, locals := 0 } : Room) (va_Pc [.long v0, .long lo, .long hi] (pr dC dI [] [] [] sz TT)) (va_Qi (fun (r : Int32) (u : Unit) => bo r (lo.toInt ≤ v0.toInt ∧ v0.toInt ≤ hi.toInt)) (fun _ _ => True) (va_A [] sz)) 0 0 (va_A [] sz) := by
  refine Met.ofW (cc := cX3_in) (maxL := 6) (ret := (some .boolean)) (by decide) rfl ?_
  intro p e s m args below meth c s₁ B hml hv
  obtain ⟨rfl, hsz, hP, hK, hD0, hst⟩ := hv
  have hx := B.exec
  have hb := B.bytes
  have hr := B.returns
  have hts := atoms_spec (ws := wsX3_in) B.pre
  have hown : s.vm.findClass RX3 = some m.cls := findClass_of_methodNamed B.named
  have hlocks := B.notSynchronized
  subst hsz
  have hD := hD0.self (sz := s.heap.size)
  generalize hAe : va_A [] s.heap.size = A at hD hst ⊢
  have hA : ∀ q : Nat, s.heap.size ≤ q → A q := fun q h => by rw [← hAe]; exact Or.inr h
  have hS : va_S A s.heap s.heap [] := va_S.rf
  have hl := lv_entry ([.long v0, .long lo, .long hi]) (n := 6) (Nat.le_of_ble_eq_true rfl)
  rw [lg_entry_eq]
  generalize (lg_sl ([.long v0, .long lo, .long hi]) ++ List.replicate (6 - (lg_sl ([.long v0, .long lo, .long hi])).length) Slot.unset).toArray = ls at hl ⊢
  have hl : lv_has ls 6 [(0, .long v0), (2, .long lo), (4, .long hi)] := hl
  have k0_ : Int32.toInt 0 = 0 := by decide
  have k1_ : Int32.toInt 1 = 1 := by decide
  refine lv_lload_n hx hb dX3_in_0 rfl (lv_at hl 0 rfl) ?_
  refine lv_lload_n hx hb dX3_in_1 rfl (lv_at hl 1 rfl) ?_
  refine W.lcmp hx hb dX3_in_2 ?_
  refine lv_if_lt (tgt := 17) hx hb dX3_in_3 (by decide) (fun c_1 => ?_) (fun c_1 => ?_)
  · have c_1 := Int64.lt_iff_toInt_lt.mp ((lg_cmp_lt v0 lo).mp c_1)
    refine lv_iconst (v := 0) hx hb dX3_in_17 (by decide) ?_
    exact W.zret (v := 0) hx hb hr rfl (fun t ht hW => ⟨⟨0, (), rfl, Or.inr ⟨rfl, by omega⟩, trivial⟩, hS.F ht⟩) hS.2.2 dX3_in_18
  · have c_1 := mt (fun h9 => (lg_cmp_lt v0 lo).mpr (Int64.lt_iff_toInt_lt.mpr h9)) c_1
    refine lv_lload_n hx hb dX3_in_6 rfl (lv_at hl 0 rfl) ?_
    refine lv_lload hx hb dX3_in_7 (lv_at hl 2 rfl) ?_
    refine W.lcmp hx hb dX3_in_9 ?_
    refine lv_if_gt (tgt := 17) hx hb dX3_in_10 (by decide) (fun c_2 => ?_) (fun c_2 => ?_)
    · have c_2 := Int64.lt_iff_toInt_lt.mp ((lg_cmp_gt v0 hi).mp c_2)
      refine lv_iconst (v := 0) hx hb dX3_in_17 (by decide) ?_
      exact W.zret (v := 0) hx hb hr rfl (fun t ht hW => ⟨⟨0, (), rfl, Or.inr ⟨rfl, by omega⟩, trivial⟩, hS.F ht⟩) hS.2.2 dX3_in_18
    · have c_2 := mt (fun h9 => (lg_cmp_gt v0 hi).mpr (Int64.lt_iff_toInt_lt.mpr h9)) c_2
      refine lv_iconst (v := 1) hx hb dX3_in_13 (by decide) ?_
      refine lv_goto (tgt := 18) hx hb dX3_in_14 (by decide) ?_
      exact W.zret (v := 1) hx hb hr rfl (fun t ht hW => ⟨⟨1, (), rfl, Or.inl ⟨rfl, by omega⟩, trivial⟩, hS.F ht⟩) hS.2.2 dX3_in_18
set_option maxRecDepth 100000 in
set_option maxHeartbeats 4000000 in
theorem c_X3_isSlot (l : Launch) (dC : Nat → ClassId) (dI : Nat → Nat → Nat) (TT : Nat × Nat × Nat) (sz : Nat) (s0 : Int32) : Met l yX3_isSlot wsX3_isSlot ({ frames := 1, cells := 0, slots := 0, locals := 25 } : Room) (va_Pc [.int s0] (pr dC dI [] [] [] sz TT)) (va_Qi (fun (r : Int32) (u : Unit) => bo r (0 ≤ s0.toInt ∧ s0.toInt < 12)) (fun _ _ => True) (va_A [] sz)) 0 0 (va_A [] sz) := by
  refine Met.ofW (cc := cX3_isSlot) (maxL := 1) (ret := (some .boolean)) (by decide) rfl ?_
  intro p e s m args below meth c s₁ B hml hv
  obtain ⟨rfl, hsz, hP, hK, hD0, hst⟩ := hv
  have hx := B.exec
  have hb := B.bytes
  have hr := B.returns
  have hts := atoms_spec (ws := wsX3_isSlot) B.pre
  have hown : s.vm.findClass RX3 = some m.cls := findClass_of_methodNamed B.named
  have hlocks := B.notSynchronized
  subst hsz
  have hD := hD0.self (sz := s.heap.size)
  generalize hAe : va_A [] s.heap.size = A at hD hst ⊢
  have hA : ∀ q : Nat, s.heap.size ≤ q → A q := fun q h => by rw [← hAe]; exact Or.inr h
  have hS : va_S A s.heap s.heap [] := va_S.rf
  have hl := lv_entry ([.int s0]) (n := 1) (Nat.le_of_ble_eq_true rfl)
  rw [lg_entry_eq]
  generalize (lg_sl ([.int s0]) ++ List.replicate (1 - (lg_sl ([.int s0])).length) Slot.unset).toArray = ls at hl ⊢
  have hl : lv_has ls 1 [(0, .int s0)] := hl
  have k0_ : Int32.toInt 0 = 0 := by decide
  have k1_ : Int32.toInt 1 = 1 := by decide
  have kl0_ : Int64.toInt 0 = 0 := by decide
  have kl11_ : Int64.toInt 11 = 11 := by decide
  refine lv_iload_n hx hb dX3_isSlot_0 rfl (lv_at hl 0 rfl) ?_
  refine lv_i2l (v := Int32.toInt64 s0) hx hb dX3_isSlot_1 rfl ?_
  have k_z_1 := Int32.toInt_toInt64 s0
  refine lv_lconst (v := 0) hx hb dX3_isSlot_2 (by decide) ?_
  refine lv_ldc2 hx hb hown (hts (.constantLong RX3 68 (11)) (by decide +kernel)) dX3_isSlot_3 ?_
  refine va_calli (va_runS (As := [.long (Int32.toInt64 s0), .long 0, .long 11]) (rest := []) ⟨hx, hb, hml, hown, hts⟩ (c_X3_in l dC dI TT s.heap.size (Int32.toInt64 s0) 0 11) (va_cwS 3 hts gX3_isSlot_X3_in rfl rfl rfl (by decide +kernel) ⟨Nat.le_of_ble_eq_true rfl, Nat.le_of_ble_eq_true rfl⟩) (pr_S (ws := []) (wA := []) (tys := []) (hP.sub [] rfl) (hK.sub [] rfl) vd_nil hst hS (ro_free hS hA)) rfl rfl hl.1 rfl (lv_room (Nat.le_of_ble_eq_true rfl)) dX3_isSlot_6 ⟨Nat.le_of_ble_eq_true rfl, Nat.le_of_ble_eq_true rfl⟩) hS (fun q _ h => (ro_free hS hA) q h) (ro_free hS hA) (fun r_2 u t H1 locs ht hvm hw hB hz1 hk1 hS => ?_)
  have hP := ro_keep hP hk1
  generalize H1 = H at hP hS ⊢
  rcases hw with ⟨rfl, hp_3⟩ | ⟨rfl, hp_3⟩
  · exact W.zret (v := 1) hx hb hr rfl (fun t ht hW => ⟨⟨1, (), rfl, Or.inl ⟨rfl, by omega⟩, trivial⟩, hS.F ht⟩) hS.2.2 dX3_isSlot_9
  · exact W.zret (v := 0) hx hb hr rfl (fun t ht hW => ⟨⟨0, (), rfl, Or.inr ⟨rfl, by omega⟩, trivial⟩, hS.F ht⟩) hS.2.2 dX3_isSlot_9
set_option maxRecDepth 100000 in
set_option maxHeartbeats 4000000 in
theorem c_X3_isLink (l : Launch) (dC : Nat → ClassId) (dI : Nat → Nat → Nat) (TT : Nat × Nat × Nat) (sz : Nat) (f0 : Int32) : Met l yX3_isLink wsX3_isLink ({ frames := 0, cells := 0, slots := 0, locals := 0 } : Room) (va_Pc [.int f0] (pr dC dI [] [] [] sz TT)) (va_Qi (fun (r : Int32) (u : Unit) => bo r (f0.toInt = 8 ∨ f0.toInt = 11 ∨ f0.toInt = 15)) (fun _ _ => True) (va_A [] sz)) 0 0 (va_A [] sz) := by
  refine Met.ofW (cc := cX3_isLink) (maxL := 1) (ret := (some .boolean)) (by decide) rfl ?_
  intro p e s m args below meth c s₁ B hml hv
  obtain ⟨rfl, hsz, hP, hK, hD0, hst⟩ := hv
  have hx := B.exec
  have hb := B.bytes
  have hr := B.returns
  have hts := atoms_spec (ws := wsX3_isLink) B.pre
  have hown : s.vm.findClass RX3 = some m.cls := findClass_of_methodNamed B.named
  have hlocks := B.notSynchronized
  subst hsz
  have hD := hD0.self (sz := s.heap.size)
  generalize hAe : va_A [] s.heap.size = A at hD hst ⊢
  have hA : ∀ q : Nat, s.heap.size ≤ q → A q := fun q h => by rw [← hAe]; exact Or.inr h
  have hS : va_S A s.heap s.heap [] := va_S.rf
  have hl := lv_entry ([.int f0]) (n := 1) (Nat.le_of_ble_eq_true rfl)
  rw [lg_entry_eq]
  generalize (lg_sl ([.int f0]) ++ List.replicate (1 - (lg_sl ([.int f0])).length) Slot.unset).toArray = ls at hl ⊢
  have hl : lv_has ls 1 [(0, .int f0)] := hl
  have k0_ : Int32.toInt 0 = 0 := by decide
  have k1_ : Int32.toInt 1 = 1 := by decide
  have k8_ : Int32.toInt 8 = 8 := by decide
  have k11_ : Int32.toInt 11 = 11 := by decide
  have k15_ : Int32.toInt 15 = 15 := by decide
  refine lv_iload_n hx hb dX3_isLink_0 rfl (lv_at hl 0 rfl) ?_
  refine lv_bipush (v := 8) hx hb dX3_isLink_1 (by decide) ?_
  refine lv_icmp_eq (tgt := 18) hx hb dX3_isLink_3 (by decide) (fun c_1 => ?_) (fun c_1 => ?_)
  · have c_1 := congrArg Int32.toInt c_1
    refine lv_iconst (v := 1) hx hb dX3_isLink_18 (by decide) ?_
    refine lv_goto (tgt := 23) hx hb dX3_isLink_19 (by decide) ?_
    exact W.zret (v := 1) hx hb hr rfl (fun t ht hW => ⟨⟨1, (), rfl, Or.inl ⟨rfl, by omega⟩, trivial⟩, hS.F ht⟩) hS.2.2 dX3_isLink_23
  · have c_1 := mt Int32.toInt_inj.mp c_1
    refine lv_iload_n hx hb dX3_isLink_6 rfl (lv_at hl 0 rfl) ?_
    refine lv_bipush (v := 11) hx hb dX3_isLink_7 (by decide) ?_
    refine lv_icmp_eq (tgt := 18) hx hb dX3_isLink_9 (by decide) (fun c_2 => ?_) (fun c_2 => ?_)
    · have c_2 := congrArg Int32.toInt c_2
      refine lv_iconst (v := 1) hx hb dX3_isLink_18 (by decide) ?_
      refine lv_goto (tgt := 23) hx hb dX3_isLink_19 (by decide) ?_
      exact W.zret (v := 1) hx hb hr rfl (fun t ht hW => ⟨⟨1, (), rfl, Or.inl ⟨rfl, by omega⟩, trivial⟩, hS.F ht⟩) hS.2.2 dX3_isLink_23
    · have c_2 := mt Int32.toInt_inj.mp c_2
      refine lv_iload_n hx hb dX3_isLink_12 rfl (lv_at hl 0 rfl) ?_
      refine lv_bipush (v := 15) hx hb dX3_isLink_13 (by decide) ?_
      refine lv_icmp_ne (tgt := 22) hx hb dX3_isLink_15 (by decide) (fun c_3 => ?_) (fun c_3 => ?_)
      · have c_3 := mt Int32.toInt_inj.mp c_3
        refine lv_iconst (v := 0) hx hb dX3_isLink_22 (by decide) ?_
        exact W.zret (v := 0) hx hb hr rfl (fun t ht hW => ⟨⟨0, (), rfl, Or.inr ⟨rfl, by omega⟩, trivial⟩, hS.F ht⟩) hS.2.2 dX3_isLink_23
      · have c_3 := congrArg Int32.toInt c_3
        refine lv_iconst (v := 1) hx hb dX3_isLink_18 (by decide) ?_
        refine lv_goto (tgt := 23) hx hb dX3_isLink_19 (by decide) ?_
        exact W.zret (v := 1) hx hb hr rfl (fun t ht hW => ⟨⟨1, (), rfl, Or.inl ⟨rfl, by omega⟩, trivial⟩, hS.F ht⟩) hS.2.2 dX3_isLink_23
set_option maxRecDepth 100000 in
set_option maxHeartbeats 4000000 in
theorem c_X3_isPlain (l : Launch) (dC : Nat → ClassId) (dI : Nat → Nat → Nat) (TT : Nat × Nat × Nat) (sz : Nat) (f0 : Int32) : Met l yX3_isPlain wsX3_isPlain ({ frames := 1, cells := 0, slots := 0, locals := 25 } : Room) (va_Pc [.int f0] (pr dC dI [] [] [] sz TT)) (va_Qi (fun (r : Int32) (u : Unit) => bo r (0 ≤ f0.toInt ∧ f0.toInt < 17 ∧ ¬ f0.toInt = 8 ∧ ¬ f0.toInt = 9 ∧ ¬ f0.toInt = 11 ∧ ¬ f0.toInt = 15)) (fun _ _ => True) (va_A [] sz)) 0 0 (va_A [] sz) := by
  refine Met.ofW (cc := cX3_isPlain) (maxL := 1) (ret := (some .boolean)) (by decide) rfl ?_
  intro p e s m args below meth c s₁ B hml hv
  obtain ⟨rfl, hsz, hP, hK, hD0, hst⟩ := hv
  have hx := B.exec
  have hb := B.bytes
  have hr := B.returns
  have hts := atoms_spec (ws := wsX3_isPlain) B.pre
  have hown : s.vm.findClass RX3 = some m.cls := findClass_of_methodNamed B.named
  have hlocks := B.notSynchronized
  subst hsz
  have hD := hD0.self (sz := s.heap.size)
  generalize hAe : va_A [] s.heap.size = A at hD hst ⊢
  have hA : ∀ q : Nat, s.heap.size ≤ q → A q := fun q h => by rw [← hAe]; exact Or.inr h
  have hS : va_S A s.heap s.heap [] := va_S.rf
  have hl := lv_entry ([.int f0]) (n := 1) (Nat.le_of_ble_eq_true rfl)
  rw [lg_entry_eq]
  generalize (lg_sl ([.int f0]) ++ List.replicate (1 - (lg_sl ([.int f0])).length) Slot.unset).toArray = ls at hl ⊢
  have hl : lv_has ls 1 [(0, .int f0)] := hl
  have k0_ : Int32.toInt 0 = 0 := by decide
  have k1_ : Int32.toInt 1 = 1 := by decide
  have k10_ : Int32.toInt 10 = 10 := by decide
  have k16_ : Int32.toInt 16 = 16 := by decide
  have kl0_ : Int64.toInt 0 = 0 := by decide
  have kl7_ : Int64.toInt 7 = 7 := by decide
  have kl12_ : Int64.toInt 12 = 12 := by decide
  have kl14_ : Int64.toInt 14 = 14 := by decide
  refine lv_iload_n hx hb dX3_isPlain_0 rfl (lv_at hl 0 rfl) ?_
  refine lv_i2l (v := Int32.toInt64 f0) hx hb dX3_isPlain_1 rfl ?_
  have k_z_1 := Int32.toInt_toInt64 f0
  refine lv_lconst (v := 0) hx hb dX3_isPlain_2 (by decide) ?_
  refine lv_ldc2 hx hb hown (hts (.constantLong RX3 103 (7)) (by decide +kernel)) dX3_isPlain_3 ?_
  refine va_calli (va_runS (As := [.long (Int32.toInt64 f0), .long 0, .long 7]) (rest := []) ⟨hx, hb, hml, hown, hts⟩ (c_X3_in l dC dI TT s.heap.size (Int32.toInt64 f0) 0 7) (va_cwS 3 hts gX3_isPlain_X3_in rfl rfl rfl (by decide +kernel) ⟨Nat.le_of_ble_eq_true rfl, Nat.le_of_ble_eq_true rfl⟩) (pr_S (ws := []) (wA := []) (tys := []) (hP.sub [] rfl) (hK.sub [] rfl) vd_nil hst hS (ro_free hS hA)) rfl rfl hl.1 rfl (lv_room (Nat.le_of_ble_eq_true rfl)) dX3_isPlain_6 ⟨Nat.le_of_ble_eq_true rfl, Nat.le_of_ble_eq_true rfl⟩) hS (fun q _ h => (ro_free hS hA) q h) (ro_free hS hA) (fun r_2 u t H1 locs ht hvm hw hB hz1 hk1 hS => ?_)
  have hP := ro_keep hP hk1
  generalize H1 = H at hP hS ⊢
  rcases hw with ⟨rfl, hp_3⟩ | ⟨rfl, hp_3⟩
  · refine lv_if_ne (tgt := 38) hx hb dX3_isPlain_9 (by decide) (fun _ => ?_) (fun c9 => absurd c9 (by decide))
    refine lv_iconst (v := 1) hx hb dX3_isPlain_38 (by decide) ?_
    refine lv_goto (tgt := 43) hx hb dX3_isPlain_39 (by decide) ?_
    exact W.zret (v := 1) hx hb hr rfl (fun t ht hW => ⟨⟨1, (), rfl, Or.inl ⟨rfl, by omega⟩, trivial⟩, hS.F ht⟩) hS.2.2 dX3_isPlain_43
  · refine lv_if_ne (tgt := 38) hx hb dX3_isPlain_9 (by decide) (fun c9 => absurd c9 (by decide)) (fun _ => ?_)
    refine lv_iload_n hx hb dX3_isPlain_12 rfl (lv_at hl 0 rfl) ?_
    refine lv_bipush (v := 10) hx hb dX3_isPlain_13 (by decide) ?_
    refine lv_icmp_eq (tgt := 38) hx hb dX3_isPlain_15 (by decide) (fun c_4 => ?_) (fun c_4 => ?_)
    · have c_4 := congrArg Int32.toInt c_4
      refine lv_iconst (v := 1) hx hb dX3_isPlain_38 (by decide) ?_
      refine lv_goto (tgt := 43) hx hb dX3_isPlain_39 (by decide) ?_
      exact W.zret (v := 1) hx hb hr rfl (fun t ht hW => ⟨⟨1, (), rfl, Or.inl ⟨rfl, by omega⟩, trivial⟩, hS.F ht⟩) hS.2.2 dX3_isPlain_43
    · have c_4 := mt Int32.toInt_inj.mp c_4
      refine lv_iload_n hx hb dX3_isPlain_18 rfl (lv_at hl 0 rfl) ?_
      refine lv_i2l (v := Int32.toInt64 f0) hx hb dX3_isPlain_19 rfl ?_
      have k_z_5 := Int32.toInt_toInt64 f0
      refine lv_ldc2 hx hb hown (hts (.constantLong RX3 105 (12)) (by decide +kernel)) dX3_isPlain_20 ?_
      refine lv_ldc2 hx hb hown (hts (.constantLong RX3 107 (14)) (by decide +kernel)) dX3_isPlain_23 ?_
      refine va_calli (va_runS (As := [.long (Int32.toInt64 f0), .long 12, .long 14]) (rest := []) ⟨hx, hb, hml, hown, hts⟩ (c_X3_in l dC dI TT H.size (Int32.toInt64 f0) 12 14) (va_cwS 3 hts gX3_isPlain_X3_in rfl rfl rfl (by decide +kernel) ⟨Nat.le_of_ble_eq_true rfl, Nat.le_of_ble_eq_true rfl⟩) (pr_S (ws := []) (wA := []) (tys := []) (hP.sub [] rfl) (hK.sub [] rfl) vd_nil hst hS (ro_free hS hA)) rfl rfl hl.1 rfl (lv_room (Nat.le_of_ble_eq_true rfl)) dX3_isPlain_26 ⟨Nat.le_of_ble_eq_true rfl, Nat.le_of_ble_eq_true rfl⟩) hS (fun q _ h => (ro_free hS hA) q h) (ro_free hS hA) (fun r_6 u t H1 locs ht hvm hw hB hz1 hk1 hS => ?_)
      have hP := ro_keep hP hk1
      generalize H1 = H at hP hS ⊢
      rcases hw with ⟨rfl, hp_7⟩ | ⟨rfl, hp_7⟩
      · refine lv_if_ne (tgt := 38) hx hb dX3_isPlain_29 (by decide) (fun _ => ?_) (fun c9 => absurd c9 (by decide))
        refine lv_iconst (v := 1) hx hb dX3_isPlain_38 (by decide) ?_
        refine lv_goto (tgt := 43) hx hb dX3_isPlain_39 (by decide) ?_
        exact W.zret (v := 1) hx hb hr rfl (fun t ht hW => ⟨⟨1, (), rfl, Or.inl ⟨rfl, by omega⟩, trivial⟩, hS.F ht⟩) hS.2.2 dX3_isPlain_43
      · refine lv_if_ne (tgt := 38) hx hb dX3_isPlain_29 (by decide) (fun c9 => absurd c9 (by decide)) (fun _ => ?_)
        refine lv_iload_n hx hb dX3_isPlain_32 rfl (lv_at hl 0 rfl) ?_
        refine lv_bipush (v := 16) hx hb dX3_isPlain_33 (by decide) ?_
        refine lv_icmp_ne (tgt := 42) hx hb dX3_isPlain_35 (by decide) (fun c_8 => ?_) (fun c_8 => ?_)
        · have c_8 := mt Int32.toInt_inj.mp c_8
          refine lv_iconst (v := 0) hx hb dX3_isPlain_42 (by decide) ?_
          exact W.zret (v := 0) hx hb hr rfl (fun t ht hW => ⟨⟨0, (), rfl, Or.inr ⟨rfl, by omega⟩, trivial⟩, hS.F ht⟩) hS.2.2 dX3_isPlain_43
        · have c_8 := congrArg Int32.toInt c_8
          refine lv_iconst (v := 1) hx hb dX3_isPlain_38 (by decide) ?_
          refine lv_goto (tgt := 43) hx hb dX3_isPlain_39 (by decide) ?_
          exact W.zret (v := 1) hx hb hr rfl (fun t ht hW => ⟨⟨1, (), rfl, Or.inl ⟨rfl, by omega⟩, trivial⟩, hS.F ht⟩) hS.2.2 dX3_isPlain_43
