set_option maxRecDepth 100000 in
set_option maxHeartbeats 4000000 in
theorem q_X3_has (l : Launch) (dC : Nat → ClassId) (dI : Nat → Nat → Nat) (TT : Nat × Nat × Nat) (sz : Nat) (c0 : Int32) (f0 : Int32) : Met l yX3_has wsX3_has ({ frames := 0, cells := 0, slots := 0, locals := 0 } : Room) (va_Pc [.int c0, .int f0] (pr dC dI [] [] [] sz TT)) (va_Qi (fun (r : Int32) (u : Unit) => bo r ((c0.toInt = 0 ∧ f0.toInt < 10) ∨ (c0.toInt = 1 ∧ f0.toInt < 12) ∨ (c0.toInt = 2 ∧ f0.toInt < 14) ∨ (c0.toInt = 3 ∧ (f0.toInt = 14 ∨ f0.toInt = 15)) ∨ (¬ c0.toInt = 0 ∧ ¬ c0.toInt = 1 ∧ ¬ c0.toInt = 2 ∧ ¬ c0.toInt = 3 ∧ f0.toInt = 16))) (fun _ _ => True) (va_A [] sz)) 0 0 (va_A [] sz) := by
  refine Met.ofW (cc := cX3_has) (maxL := 2) (ret := (some .boolean)) (by decide) rfl ?_
  intro p e s m args below meth c s₁ B hml hv
  obtain ⟨rfl, hsz, hP, hK, hD0, hst⟩ := hv
  have hx := B.exec
  have hb := B.bytes
  have hr := B.returns
  have hts := atoms_spec (ws := wsX3_has) B.pre
  have hown : s.vm.findClass RX3 = some m.cls := findClass_of_methodNamed B.named
  have hlocks := B.notSynchronized
  subst hsz
  have hD := hD0.self (sz := s.heap.size)
  generalize hAe : va_A [] s.heap.size = A at hD hst ⊢
  have hA : ∀ q : Nat, s.heap.size ≤ q → A q := fun q h => by rw [← hAe]; exact Or.inr h
  have hS : va_S A s.heap s.heap [] := va_S.rf
  have hl := lv_entry ([.int c0, .int f0]) (n := 2) (Nat.le_of_ble_eq_true rfl)
  rw [lg_entry_eq]
  generalize (lg_sl ([.int c0, .int f0]) ++ List.replicate (2 - (lg_sl ([.int c0, .int f0])).length) Slot.unset).toArray = ls at hl ⊢
  have hl : lv_has ls 2 [(0, .int c0), (1, .int f0)] := hl
  have k0_ : Int32.toInt 0 = 0 := by decide
  have k1_ : Int32.toInt 1 = 1 := by decide
  have k2_ : Int32.toInt 2 = 2 := by decide
  have k3_ : Int32.toInt 3 = 3 := by decide
  have k10_ : Int32.toInt 10 = 10 := by decide
  have k12_ : Int32.toInt 12 = 12 := by decide
  have k14_ : Int32.toInt 14 = 14 := by decide
  have k15_ : Int32.toInt 15 = 15 := by decide
  have k16_ : Int32.toInt 16 = 16 := by decide
  refine lv_iload_n hx hb dX3_has_0 rfl (lv_at hl 0 rfl) ?_
  refine lv_if_ne (tgt := 18) hx hb dX3_has_1 (by decide) (fun c_1 => ?_) (fun c_1 => ?_)
  · have c_1 := mt Int32.toInt_inj.mp c_1
    refine lv_iload_n hx hb dX3_has_18 rfl (lv_at hl 0 rfl) ?_
    refine lv_iconst (v := 1) hx hb dX3_has_19 (by decide) ?_
    refine lv_icmp_ne (tgt := 37) hx hb dX3_has_20 (by decide) (fun c_2 => ?_) (fun c_2 => ?_)
    · have c_2 := mt Int32.toInt_inj.mp c_2
      refine lv_iload_n hx hb dX3_has_37 rfl (lv_at hl 0 rfl) ?_
      refine lv_iconst (v := 2) hx hb dX3_has_38 (by decide) ?_
      refine lv_icmp_ne (tgt := 56) hx hb dX3_has_39 (by decide) (fun c_3 => ?_) (fun c_3 => ?_)
      · have c_3 := mt Int32.toInt_inj.mp c_3
        refine lv_iload_n hx hb dX3_has_56 rfl (lv_at hl 0 rfl) ?_
        refine lv_iconst (v := 3) hx hb dX3_has_57 (by decide) ?_
        refine lv_icmp_ne (tgt := 81) hx hb dX3_has_58 (by decide) (fun c_4 => ?_) (fun c_4 => ?_)
        · have c_4 := mt Int32.toInt_inj.mp c_4
          refine lv_iload_n hx hb dX3_has_81 rfl (lv_at hl 1 rfl) ?_
          refine lv_bipush (v := 16) hx hb dX3_has_82 (by decide) ?_
          refine lv_icmp_ne (tgt := 91) hx hb dX3_has_84 (by decide) (fun c_5 => ?_) (fun c_5 => ?_)
          · have c_5 := mt Int32.toInt_inj.mp c_5
            refine lv_iconst (v := 0) hx hb dX3_has_91 (by decide) ?_
            exact W.zret (v := 0) hx hb hr rfl (fun t ht hW => ⟨⟨0, (), rfl, Or.inr ⟨rfl, by omega⟩, trivial⟩, hS.F ht⟩) hS.2.2 dX3_has_92
          · have c_5 := congrArg Int32.toInt c_5
            refine lv_iconst (v := 1) hx hb dX3_has_87 (by decide) ?_
            refine lv_goto (tgt := 92) hx hb dX3_has_88 (by decide) ?_
            exact W.zret (v := 1) hx hb hr rfl (fun t ht hW => ⟨⟨1, (), rfl, Or.inl ⟨rfl, by omega⟩, trivial⟩, hS.F ht⟩) hS.2.2 dX3_has_92
        · have c_4 := congrArg Int32.toInt c_4
          refine lv_iload_n hx hb dX3_has_61 rfl (lv_at hl 1 rfl) ?_
          refine lv_bipush (v := 14) hx hb dX3_has_62 (by decide) ?_
          refine lv_icmp_eq (tgt := 73) hx hb dX3_has_64 (by decide) (fun c_6 => ?_) (fun c_6 => ?_)
          · have c_6 := congrArg Int32.toInt c_6
            refine lv_iconst (v := 1) hx hb dX3_has_73 (by decide) ?_
            refine lv_goto (tgt := 92) hx hb dX3_has_74 (by decide) ?_
            exact W.zret (v := 1) hx hb hr rfl (fun t ht hW => ⟨⟨1, (), rfl, Or.inl ⟨rfl, by omega⟩, trivial⟩, hS.F ht⟩) hS.2.2 dX3_has_92
          · have c_6 := mt Int32.toInt_inj.mp c_6
            refine lv_iload_n hx hb dX3_has_67 rfl (lv_at hl 1 rfl) ?_
            refine lv_bipush (v := 15) hx hb dX3_has_68 (by decide) ?_
            refine lv_icmp_ne (tgt := 77) hx hb dX3_has_70 (by decide) (fun c_7 => ?_) (fun c_7 => ?_)
            · have c_7 := mt Int32.toInt_inj.mp c_7
              refine lv_iconst (v := 0) hx hb dX3_has_77 (by decide) ?_
              refine lv_goto (tgt := 92) hx hb dX3_has_78 (by decide) ?_
              exact W.zret (v := 0) hx hb hr rfl (fun t ht hW => ⟨⟨0, (), rfl, Or.inr ⟨rfl, by omega⟩, trivial⟩, hS.F ht⟩) hS.2.2 dX3_has_92
            · have c_7 := congrArg Int32.toInt c_7
              refine lv_iconst (v := 1) hx hb dX3_has_73 (by decide) ?_
              refine lv_goto (tgt := 92) hx hb dX3_has_74 (by decide) ?_
              exact W.zret (v := 1) hx hb hr rfl (fun t ht hW => ⟨⟨1, (), rfl, Or.inl ⟨rfl, by omega⟩, trivial⟩, hS.F ht⟩) hS.2.2 dX3_has_92
      · have c_3 := congrArg Int32.toInt c_3
        refine lv_iload_n hx hb dX3_has_42 rfl (lv_at hl 1 rfl) ?_
        refine lv_bipush (v := 14) hx hb dX3_has_43 (by decide) ?_
        refine lv_icmp_ge (tgt := 52) hx hb dX3_has_45 (by decide) (fun c_8 => ?_) (fun c_8 => ?_)
        · have c_8 := Int32.le_iff_toInt_le.mp c_8
          refine lv_iconst (v := 0) hx hb dX3_has_52 (by decide) ?_
          refine lv_goto (tgt := 92) hx hb dX3_has_53 (by decide) ?_
          exact W.zret (v := 0) hx hb hr rfl (fun t ht hW => ⟨⟨0, (), rfl, Or.inr ⟨rfl, by omega⟩, trivial⟩, hS.F ht⟩) hS.2.2 dX3_has_92
        · have c_8 := mt Int32.le_iff_toInt_le.mpr c_8
          refine lv_iconst (v := 1) hx hb dX3_has_48 (by decide) ?_
          refine lv_goto (tgt := 92) hx hb dX3_has_49 (by decide) ?_
          exact W.zret (v := 1) hx hb hr rfl (fun t ht hW => ⟨⟨1, (), rfl, Or.inl ⟨rfl, by omega⟩, trivial⟩, hS.F ht⟩) hS.2.2 dX3_has_92
    · have c_2 := congrArg Int32.toInt c_2
      refine lv_iload_n hx hb dX3_has_23 rfl (lv_at hl 1 rfl) ?_
      refine lv_bipush (v := 12) hx hb dX3_has_24 (by decide) ?_
      refine lv_icmp_ge (tgt := 33) hx hb dX3_has_26 (by decide) (fun c_9 => ?_) (fun c_9 => ?_)
      · have c_9 := Int32.le_iff_toInt_le.mp c_9
        refine lv_iconst (v := 0) hx hb dX3_has_33 (by decide) ?_
        refine lv_goto (tgt := 92) hx hb dX3_has_34 (by decide) ?_
        exact W.zret (v := 0) hx hb hr rfl (fun t ht hW => ⟨⟨0, (), rfl, Or.inr ⟨rfl, by omega⟩, trivial⟩, hS.F ht⟩) hS.2.2 dX3_has_92
      · have c_9 := mt Int32.le_iff_toInt_le.mpr c_9
        refine lv_iconst (v := 1) hx hb dX3_has_29 (by decide) ?_
        refine lv_goto (tgt := 92) hx hb dX3_has_30 (by decide) ?_
        exact W.zret (v := 1) hx hb hr rfl (fun t ht hW => ⟨⟨1, (), rfl, Or.inl ⟨rfl, by omega⟩, trivial⟩, hS.F ht⟩) hS.2.2 dX3_has_92
  · have c_1 := congrArg Int32.toInt c_1
    refine lv_iload_n hx hb dX3_has_4 rfl (lv_at hl 1 rfl) ?_
    refine lv_bipush (v := 10) hx hb dX3_has_5 (by decide) ?_
    refine lv_icmp_ge (tgt := 14) hx hb dX3_has_7 (by decide) (fun c_10 => ?_) (fun c_10 => ?_)
    · have c_10 := Int32.le_iff_toInt_le.mp c_10
      refine lv_iconst (v := 0) hx hb dX3_has_14 (by decide) ?_
      refine lv_goto (tgt := 92) hx hb dX3_has_15 (by decide) ?_
      exact W.zret (v := 0) hx hb hr rfl (fun t ht hW => ⟨⟨0, (), rfl, Or.inr ⟨rfl, by omega⟩, trivial⟩, hS.F ht⟩) hS.2.2 dX3_has_92
    · have c_10 := mt Int32.le_iff_toInt_le.mpr c_10
      refine lv_iconst (v := 1) hx hb dX3_has_10 (by decide) ?_
      refine lv_goto (tgt := 92) hx hb dX3_has_11 (by decide) ?_
      exact W.zret (v := 1) hx hb hr rfl (fun t ht hW => ⟨⟨1, (), rfl, Or.inl ⟨rfl, by omega⟩, trivial⟩, hS.F ht⟩) hS.2.2 dX3_has_92
set_option maxRecDepth 100000 in
set_option maxHeartbeats 4000000 in
theorem q_X3_isBelow (l : Launch) (dC : Nat → ClassId) (dI : Nat → Nat → Nat) (TT : Nat × Nat × Nat) (sz : Nat) (c0 f0 : Int32) : Met l yX3_isBelow wsX3_isBelow ({ frames := 0, cells := 0, slots := 0, locals := 0 } : Room) (va_Pc [.int c0, .int f0] (pr dC dI [] [] [] sz TT)) (va_Qi (fun (r : Int32) (u : Unit) => r01 r) (fun _ _ => True) (va_A [] sz)) 0 0 (va_A [] sz) := by
  refine Met.ofW (cc := cX3_isBelow) (maxL := 2) (ret := (some .boolean)) (by decide) rfl ?_
  intro p e s m args below meth c s₁ B hml hv
  obtain ⟨rfl, hsz, hP, hK, hD0, hst⟩ := hv
  have hx := B.exec
  have hb := B.bytes
  have hr := B.returns
  have hts := atoms_spec (ws := wsX3_isBelow) B.pre
  have hown : s.vm.findClass RX3 = some m.cls := findClass_of_methodNamed B.named
  have hlocks := B.notSynchronized
  subst hsz
  have hD := hD0.self (sz := s.heap.size)
  generalize hAe : va_A [] s.heap.size = A at hD hst ⊢
  have hA : ∀ q : Nat, s.heap.size ≤ q → A q := fun q h => by rw [← hAe]; exact Or.inr h
  have hS : va_S A s.heap s.heap [] := va_S.rf
  have hl := lv_entry ([.int c0, .int f0]) (n := 2) (Nat.le_of_ble_eq_true rfl)
  rw [lg_entry_eq]
  generalize (lg_sl ([.int c0, .int f0]) ++ List.replicate (2 - (lg_sl ([.int c0, .int f0])).length) Slot.unset).toArray = ls at hl ⊢
  have hl : lv_has ls 2 [(0, .int c0), (1, .int f0)] := hl
  have k3_ : Int32.toInt 3 = 3 := by decide
  have k4_ : Int32.toInt 4 = 4 := by decide
  have k5_ : Int32.toInt 5 = 5 := by decide
  refine lv_iload_n hx hb dX3_isBelow_0 rfl (lv_at hl 1 rfl) ?_
  refine lv_iconst (v := 5) hx hb dX3_isBelow_1 (by decide) ?_
  refine lv_icmp_ne (tgt := 18) hx hb dX3_isBelow_2 (by decide) (fun c_1 => ?_) (fun c_1 => ?_)
  · have c_1 := mt Int32.toInt_inj.mp c_1
    refine lv_iload_n hx hb dX3_isBelow_18 rfl (lv_at hl 0 rfl) ?_
    refine lv_iload_n hx hb dX3_isBelow_19 rfl (lv_at hl 1 rfl) ?_
    refine lv_icmp_eq (tgt := 33) hx hb dX3_isBelow_20 (by decide) (fun c_2 => ?_) (fun c_2 => ?_)
    · have c_2 := congrArg Int32.toInt c_2
      refine lv_iconst (v := 1) hx hb dX3_isBelow_33 (by decide) ?_
      refine lv_goto (tgt := 38) hx hb dX3_isBelow_34 (by decide) ?_
      exact W.zret (v := 1) hx hb hr rfl (fun t ht hW => ⟨⟨1, (), rfl, Or.inl rfl, trivial⟩, hS.F ht⟩) hS.2.2 dX3_isBelow_38
    · have c_2 := mt Int32.toInt_inj.mp c_2
      refine lv_iload_n hx hb dX3_isBelow_23 rfl (lv_at hl 1 rfl) ?_
      refine lv_iload_n hx hb dX3_isBelow_24 rfl (lv_at hl 0 rfl) ?_
      refine lv_icmp_ge (tgt := 37) hx hb dX3_isBelow_25 (by decide) (fun c_3 => ?_) (fun c_3 => ?_)
      · have c_3 := Int32.le_iff_toInt_le.mp c_3
        refine lv_iconst (v := 0) hx hb dX3_isBelow_37 (by decide) ?_
        exact W.zret (v := 0) hx hb hr rfl (fun t ht hW => ⟨⟨0, (), rfl, Or.inr rfl, trivial⟩, hS.F ht⟩) hS.2.2 dX3_isBelow_38
      · have c_3 := mt Int32.le_iff_toInt_le.mpr c_3
        refine lv_iload_n hx hb dX3_isBelow_28 rfl (lv_at hl 0 rfl) ?_
        refine lv_iconst (v := 3) hx hb dX3_isBelow_29 (by decide) ?_
        refine lv_icmp_ge (tgt := 37) hx hb dX3_isBelow_30 (by decide) (fun c_4 => ?_) (fun c_4 => ?_)
        · have c_4 := Int32.le_iff_toInt_le.mp c_4
          refine lv_iconst (v := 0) hx hb dX3_isBelow_37 (by decide) ?_
          exact W.zret (v := 0) hx hb hr rfl (fun t ht hW => ⟨⟨0, (), rfl, Or.inr rfl, trivial⟩, hS.F ht⟩) hS.2.2 dX3_isBelow_38
        · have c_4 := mt Int32.le_iff_toInt_le.mpr c_4
          refine lv_iconst (v := 1) hx hb dX3_isBelow_33 (by decide) ?_
          refine lv_goto (tgt := 38) hx hb dX3_isBelow_34 (by decide) ?_
          exact W.zret (v := 1) hx hb hr rfl (fun t ht hW => ⟨⟨1, (), rfl, Or.inl rfl, trivial⟩, hS.F ht⟩) hS.2.2 dX3_isBelow_38
  · have c_1 := congrArg Int32.toInt c_1
    refine lv_iload_n hx hb dX3_isBelow_5 rfl (lv_at hl 0 rfl) ?_
    refine lv_iconst (v := 4) hx hb dX3_isBelow_6 (by decide) ?_
    refine lv_icmp_ge (tgt := 14) hx hb dX3_isBelow_7 (by decide) (fun c_5 => ?_) (fun c_5 => ?_)
    · have c_5 := Int32.le_iff_toInt_le.mp c_5
      refine lv_iconst (v := 0) hx hb dX3_isBelow_14 (by decide) ?_
      refine lv_goto (tgt := 38) hx hb dX3_isBelow_15 (by decide) ?_
      exact W.zret (v := 0) hx hb hr rfl (fun t ht hW => ⟨⟨0, (), rfl, Or.inr rfl, trivial⟩, hS.F ht⟩) hS.2.2 dX3_isBelow_38
    · have c_5 := mt Int32.le_iff_toInt_le.mpr c_5
      refine lv_iconst (v := 1) hx hb dX3_isBelow_10 (by decide) ?_
      refine lv_goto (tgt := 38) hx hb dX3_isBelow_11 (by decide) ?_
      exact W.zret (v := 1) hx hb hr rfl (fun t ht hW => ⟨⟨1, (), rfl, Or.inl rfl, trivial⟩, hS.F ht⟩) hS.2.2 dX3_isBelow_38
set_option maxRecDepth 100000 in
set_option maxHeartbeats 4000000 in
theorem q_X3_mayBeIn (l : Launch) (dC : Nat → ClassId) (dI : Nat → Nat → Nat) (TT : Nat × Nat × Nat) (sz : Nat) (c0 f0 : Int32) : Met l yX3_mayBeIn wsX3_mayBeIn ({ frames := 0, cells := 0, slots := 0, locals := 0 } : Room) (va_Pc [.int c0, .int f0] (pr dC dI [] [] [] sz TT)) (va_Qi (fun (r : Int32) (u : Unit) => r01 r) (fun _ _ => True) (va_A [] sz)) 0 0 (va_A [] sz) := by
  refine Met.ofW (cc := cX3_mayBeIn) (maxL := 2) (ret := (some .boolean)) (by decide) rfl ?_
  intro p e s m args below meth c s₁ B hml hv
  obtain ⟨rfl, hsz, hP, hK, hD0, hst⟩ := hv
  have hx := B.exec
  have hb := B.bytes
  have hr := B.returns
  have hts := atoms_spec (ws := wsX3_mayBeIn) B.pre
  have hown : s.vm.findClass RX3 = some m.cls := findClass_of_methodNamed B.named
  have hlocks := B.notSynchronized
  subst hsz
  have hD := hD0.self (sz := s.heap.size)
  generalize hAe : va_A [] s.heap.size = A at hD hst ⊢
  have hA : ∀ q : Nat, s.heap.size ≤ q → A q := fun q h => by rw [← hAe]; exact Or.inr h
  have hS : va_S A s.heap s.heap [] := va_S.rf
  have hl := lv_entry ([.int c0, .int f0]) (n := 2) (Nat.le_of_ble_eq_true rfl)
  rw [lg_entry_eq]
  generalize (lg_sl ([.int c0, .int f0]) ++ List.replicate (2 - (lg_sl ([.int c0, .int f0])).length) Slot.unset).toArray = ls at hl ⊢
  have hl : lv_has ls 2 [(0, .int c0), (1, .int f0)] := hl
  have k1_ : Int32.toInt 1 = 1 := by decide
  have k2_ : Int32.toInt 2 = 2 := by decide
  have k3_ : Int32.toInt 3 = 3 := by decide
  have k4_ : Int32.toInt 4 = 4 := by decide
  have k8_ : Int32.toInt 8 = 8 := by decide
  have k11_ : Int32.toInt 11 = 11 := by decide
  refine lv_iload_n hx hb dX3_mayBeIn_0 rfl (lv_at hl 1 rfl) ?_
  refine lv_bipush (v := 8) hx hb dX3_mayBeIn_1 (by decide) ?_
  refine lv_icmp_ne (tgt := 19) hx hb dX3_mayBeIn_3 (by decide) (fun c_1 => ?_) (fun c_1 => ?_)
  · have c_1 := mt Int32.toInt_inj.mp c_1
    refine lv_iload_n hx hb dX3_mayBeIn_19 rfl (lv_at hl 1 rfl) ?_
    refine lv_bipush (v := 11) hx hb dX3_mayBeIn_20 (by decide) ?_
    refine lv_icmp_ne (tgt := 43) hx hb dX3_mayBeIn_22 (by decide) (fun c_2 => ?_) (fun c_2 => ?_)
    · have c_2 := mt Int32.toInt_inj.mp c_2
      refine lv_iload_n hx hb dX3_mayBeIn_43 rfl (lv_at hl 0 rfl) ?_
      refine lv_iconst (v := 4) hx hb dX3_mayBeIn_44 (by decide) ?_
      refine lv_icmp_ge (tgt := 52) hx hb dX3_mayBeIn_45 (by decide) (fun c_3 => ?_) (fun c_3 => ?_)
      · have c_3 := Int32.le_iff_toInt_le.mp c_3
        refine lv_iconst (v := 0) hx hb dX3_mayBeIn_52 (by decide) ?_
        exact W.zret (v := 0) hx hb hr rfl (fun t ht hW => ⟨⟨0, (), rfl, Or.inr rfl, trivial⟩, hS.F ht⟩) hS.2.2 dX3_mayBeIn_53
      · have c_3 := mt Int32.le_iff_toInt_le.mpr c_3
        refine lv_iconst (v := 1) hx hb dX3_mayBeIn_48 (by decide) ?_
        refine lv_goto (tgt := 53) hx hb dX3_mayBeIn_49 (by decide) ?_
        exact W.zret (v := 1) hx hb hr rfl (fun t ht hW => ⟨⟨1, (), rfl, Or.inl rfl, trivial⟩, hS.F ht⟩) hS.2.2 dX3_mayBeIn_53
    · have c_2 := congrArg Int32.toInt c_2
      refine lv_iload_n hx hb dX3_mayBeIn_25 rfl (lv_at hl 0 rfl) ?_
      refine lv_iconst (v := 1) hx hb dX3_mayBeIn_26 (by decide) ?_
      refine lv_icmp_eq (tgt := 35) hx hb dX3_mayBeIn_27 (by decide) (fun c_4 => ?_) (fun c_4 => ?_)
      · have c_4 := congrArg Int32.toInt c_4
        refine lv_iconst (v := 1) hx hb dX3_mayBeIn_35 (by decide) ?_
        refine lv_goto (tgt := 53) hx hb dX3_mayBeIn_36 (by decide) ?_
        exact W.zret (v := 1) hx hb hr rfl (fun t ht hW => ⟨⟨1, (), rfl, Or.inl rfl, trivial⟩, hS.F ht⟩) hS.2.2 dX3_mayBeIn_53
      · have c_4 := mt Int32.toInt_inj.mp c_4
        refine lv_iload_n hx hb dX3_mayBeIn_30 rfl (lv_at hl 0 rfl) ?_
        refine lv_iconst (v := 2) hx hb dX3_mayBeIn_31 (by decide) ?_
        refine lv_icmp_ne (tgt := 39) hx hb dX3_mayBeIn_32 (by decide) (fun c_5 => ?_) (fun c_5 => ?_)
        · have c_5 := mt Int32.toInt_inj.mp c_5
          refine lv_iconst (v := 0) hx hb dX3_mayBeIn_39 (by decide) ?_
          refine lv_goto (tgt := 53) hx hb dX3_mayBeIn_40 (by decide) ?_
          exact W.zret (v := 0) hx hb hr rfl (fun t ht hW => ⟨⟨0, (), rfl, Or.inr rfl, trivial⟩, hS.F ht⟩) hS.2.2 dX3_mayBeIn_53
        · have c_5 := congrArg Int32.toInt c_5
          refine lv_iconst (v := 1) hx hb dX3_mayBeIn_35 (by decide) ?_
          refine lv_goto (tgt := 53) hx hb dX3_mayBeIn_36 (by decide) ?_
          exact W.zret (v := 1) hx hb hr rfl (fun t ht hW => ⟨⟨1, (), rfl, Or.inl rfl, trivial⟩, hS.F ht⟩) hS.2.2 dX3_mayBeIn_53
  · have c_1 := congrArg Int32.toInt c_1
    refine lv_iload_n hx hb dX3_mayBeIn_6 rfl (lv_at hl 0 rfl) ?_
    refine lv_iconst (v := 3) hx hb dX3_mayBeIn_7 (by decide) ?_
    refine lv_icmp_ge (tgt := 15) hx hb dX3_mayBeIn_8 (by decide) (fun c_6 => ?_) (fun c_6 => ?_)
    · have c_6 := Int32.le_iff_toInt_le.mp c_6
      refine lv_iconst (v := 0) hx hb dX3_mayBeIn_15 (by decide) ?_
      refine lv_goto (tgt := 53) hx hb dX3_mayBeIn_16 (by decide) ?_
      exact W.zret (v := 0) hx hb hr rfl (fun t ht hW => ⟨⟨0, (), rfl, Or.inr rfl, trivial⟩, hS.F ht⟩) hS.2.2 dX3_mayBeIn_53
    · have c_6 := mt Int32.le_iff_toInt_le.mpr c_6
      refine lv_iconst (v := 1) hx hb dX3_mayBeIn_11 (by decide) ?_
      refine lv_goto (tgt := 53) hx hb dX3_mayBeIn_12 (by decide) ?_
      exact W.zret (v := 1) hx hb hr rfl (fun t ht hW => ⟨⟨1, (), rfl, Or.inl rfl, trivial⟩, hS.F ht⟩) hS.2.2 dX3_mayBeIn_53
set_option maxRecDepth 100000 in
set_option maxHeartbeats 4000000 in
theorem q_X3_valueOf (l : Launch) (dC : Nat → ClassId) (dI : Nat → Nat → Nat) (TT : Nat × Nat × Nat) (sz : Nat) (kI kJ kZ : ClassId) (K : Nat → Nat) (L : List Nat) (f : Nat → va_E) (hPI : PR kI kJ kZ K L f) (f0 : Int32) (v0 : Int64) : Met l yX3_valueOf wsX3_valueOf ({ frames := 0, cells := 0, slots := 0, locals := 0 } : Room) (va_Pc [.int f0, .long v0] (pr dC dI (va_pl L f) [] [(kI, .int), (kJ, .long), (kZ, .boolean)] sz TT)) (va_Ql (fun (r : Int64) (u : Unit) => True) (fun _ _ => True) (va_A [] sz)) 0 0 (va_A [] sz) := by
  refine Met.ofW (cc := cX3_valueOf) (maxL := 3) (ret := (some .long)) (by decide) rfl ?_
  intro p e s m args below meth c s₁ B hml hv
  obtain ⟨rfl, hsz, hP, hK, hD0, hst⟩ := hv
  have hx := B.exec
  have hb := B.bytes
  have hr := B.returns
  have hts := atoms_spec (ws := wsX3_valueOf) B.pre
  have hown : s.vm.findClass RX3 = some m.cls := findClass_of_methodNamed B.named
  have hlocks := B.notSynchronized
  subst hsz
  have hD := hD0.self (sz := s.heap.size)
  generalize hAe : va_A [] s.heap.size = A at hD hst ⊢
  have hA : ∀ q : Nat, s.heap.size ≤ q → A q := fun q h => by rw [← hAe]; exact Or.inr h
  have hS : va_S A s.heap s.heap [] := va_S.rf
  have hl := lv_entry ([.int f0, .long v0]) (n := 3) (Nat.le_of_ble_eq_true rfl)
  rw [lg_entry_eq]
  generalize (lg_sl ([.int f0, .long v0]) ++ List.replicate (3 - (lg_sl ([.int f0, .long v0])).length) Slot.unset).toArray = ls at hl ⊢
  have hl : lv_has ls 3 [(0, .int f0), (1, .long v0)] := hl
  have k2139095040_ : Int32.toInt 2139095040 = 2139095040 := by decide
  have kl2143289344_ : Int64.toInt 2143289344 = 2143289344 := by decide
  have kl9218868437227405312_ : Int64.toInt 9218868437227405312 = 9218868437227405312 := by decide
  have kl9221120237041090560_ : Int64.toInt 9221120237041090560 = 9221120237041090560 := by decide
  refine lv_iload_n hx hb dX3_valueOf_0 rfl (lv_at hl 0 rfl) ?_
  by_cases sw_1 : f0.toInt < 0 ∨ 14 < f0.toInt
  · refine lv_tableOut (tgt := 148) hx hb dX3_valueOf_1 sw_1 (by decide) ?_
    refine lv_lload_n hx hb dX3_valueOf_148 rfl (lv_at hl 1 rfl) ?_
    refine lv_l2i hx hb dX3_valueOf_149 rfl ?_
    refine lv_topi (fun z_1 ez_1 => ?_)
    refine lv_i2l (v := Int32.toInt64 z_1) hx hb dX3_valueOf_150 rfl ?_
    have k_z_2 := Int32.toInt_toInt64 z_1
    exact W.lret (v := (Int32.toInt64 z_1)) hx hb hr (fun t ht hW => ⟨⟨(Int32.toInt64 z_1), (), rfl, trivial, trivial⟩, hS.F ht⟩) hS.2.2 dX3_valueOf_151
  · rcases (show f0.toInt = 0 ∨ f0.toInt = 1 ∨ f0.toInt = 2 ∨ f0.toInt = 3 ∨ f0.toInt = 4 ∨ f0.toInt = 5 ∨ f0.toInt = 6 ∨ f0.toInt = 7 ∨ f0.toInt = 8 ∨ f0.toInt = 9 ∨ f0.toInt = 10 ∨ f0.toInt = 11 ∨ f0.toInt = 12 ∨ f0.toInt = 13 ∨ f0.toInt = 14 by omega) with sv_1 | sv_1 | sv_1 | sv_1 | sv_1 | sv_1 | sv_1 | sv_1 | sv_1 | sv_1 | sv_1 | sv_1 | sv_1 | sv_1 | sv_1
    · refine lv_tableIn (off := 75) (tgt := 76) hx hb dX3_valueOf_1 (by omega) (by omega) (by rw [sv_1]; rfl) (by decide) ?_
      refine lv_lload_n hx hb dX3_valueOf_76 rfl (lv_at hl 1 rfl) ?_
      refine lv_lconst (v := 1) hx hb dX3_valueOf_77 (by decide) ?_
      refine lv_land hx hb dX3_valueOf_78 ?_
      refine lv_topl (fun z_3 ez_3 => ?_)
      exact W.lret (v := z_3) hx hb hr (fun t ht hW => ⟨⟨z_3, (), rfl, trivial, trivial⟩, hS.F ht⟩) hS.2.2 dX3_valueOf_79
    · refine lv_tableIn (off := 79) (tgt := 80) hx hb dX3_valueOf_1 (by omega) (by omega) (by rw [sv_1]; rfl) (by decide) ?_
      refine lv_lload_n hx hb dX3_valueOf_80 rfl (lv_at hl 1 rfl) ?_
      refine lv_l2i hx hb dX3_valueOf_81 rfl ?_
      refine lv_topi (fun z_4 ez_4 => ?_)
      refine lv_bipush (v := 24) hx hb dX3_valueOf_82 (by decide) ?_
      refine lv_ishl hx hb dX3_valueOf_84 ?_
      refine lv_topi (fun z_5 ez_5 => ?_)
      refine lv_bipush (v := 24) hx hb dX3_valueOf_85 (by decide) ?_
      refine lv_ishr hx hb dX3_valueOf_87 ?_
      refine lv_topi (fun z_6 ez_6 => ?_)
      refine lv_i2l (v := Int32.toInt64 z_6) hx hb dX3_valueOf_88 rfl ?_
      have k_z_7 := Int32.toInt_toInt64 z_6
      exact W.lret (v := (Int32.toInt64 z_6)) hx hb hr (fun t ht hW => ⟨⟨(Int32.toInt64 z_6), (), rfl, trivial, trivial⟩, hS.F ht⟩) hS.2.2 dX3_valueOf_89
    · refine lv_tableIn (off := 89) (tgt := 90) hx hb dX3_valueOf_1 (by omega) (by omega) (by rw [sv_1]; rfl) (by decide) ?_
      refine lv_lload_n hx hb dX3_valueOf_90 rfl (lv_at hl 1 rfl) ?_
      refine lv_l2i hx hb dX3_valueOf_91 rfl ?_
      refine lv_topi (fun z_8 ez_8 => ?_)
      refine lv_bipush (v := 16) hx hb dX3_valueOf_92 (by decide) ?_
      refine lv_ishl hx hb dX3_valueOf_94 ?_
      refine lv_topi (fun z_9 ez_9 => ?_)
      refine lv_bipush (v := 16) hx hb dX3_valueOf_95 (by decide) ?_
      refine lv_ishr hx hb dX3_valueOf_97 ?_
      refine lv_topi (fun z_10 ez_10 => ?_)
      refine lv_i2l (v := Int32.toInt64 z_10) hx hb dX3_valueOf_98 rfl ?_
      have k_z_11 := Int32.toInt_toInt64 z_10
      exact W.lret (v := (Int32.toInt64 z_10)) hx hb hr (fun t ht hW => ⟨⟨(Int32.toInt64 z_10), (), rfl, trivial, trivial⟩, hS.F ht⟩) hS.2.2 dX3_valueOf_99
    · refine lv_tableIn (off := 99) (tgt := 100) hx hb dX3_valueOf_1 (by omega) (by omega) (by rw [sv_1]; rfl) (by decide) ?_
      refine lv_lload_n hx hb dX3_valueOf_100 rfl (lv_at hl 1 rfl) ?_
      refine lv_ldc2 hx hb hown (hts (.constantLong RX3 109 (65535)) (by decide +kernel)) dX3_valueOf_101 ?_
      refine lv_land hx hb dX3_valueOf_104 ?_
      refine lv_topl (fun z_12 ez_12 => ?_)
      exact W.lret (v := z_12) hx hb hr (fun t ht hW => ⟨⟨z_12, (), rfl, trivial, trivial⟩, hS.F ht⟩) hS.2.2 dX3_valueOf_105
    · refine lv_tableIn (off := 147) (tgt := 148) hx hb dX3_valueOf_1 (by omega) (by omega) (by rw [sv_1]; rfl) (by decide) ?_
      refine lv_lload_n hx hb dX3_valueOf_148 rfl (lv_at hl 1 rfl) ?_
      refine lv_l2i hx hb dX3_valueOf_149 rfl ?_
      refine lv_topi (fun z_13 ez_13 => ?_)
      refine lv_i2l (v := Int32.toInt64 z_13) hx hb dX3_valueOf_150 rfl ?_
      have k_z_14 := Int32.toInt_toInt64 z_13
      exact W.lret (v := (Int32.toInt64 z_13)) hx hb hr (fun t ht hW => ⟨⟨(Int32.toInt64 z_13), (), rfl, trivial, trivial⟩, hS.F ht⟩) hS.2.2 dX3_valueOf_151
    · refine lv_tableIn (off := 105) (tgt := 106) hx hb dX3_valueOf_1 (by omega) (by omega) (by rw [sv_1]; rfl) (by decide) ?_
      refine lv_lload_n hx hb dX3_valueOf_106 rfl (lv_at hl 1 rfl) ?_
      exact W.lret (v := v0) hx hb hr (fun t ht hW => ⟨⟨v0, (), rfl, trivial, trivial⟩, hS.F ht⟩) hS.2.2 dX3_valueOf_107
    · refine lv_tableIn (off := 107) (tgt := 108) hx hb dX3_valueOf_1 (by omega) (by omega) (by rw [sv_1]; rfl) (by decide) ?_
      refine lv_lload_n hx hb dX3_valueOf_108 rfl (lv_at hl 1 rfl) ?_
      refine lv_l2i hx hb dX3_valueOf_109 rfl ?_
      refine lv_topi (fun z_15 ez_15 => ?_)
      refine lv_ldc hx hb hown (hts (.constant RX3 111 (2147483647)) (by decide +kernel)) dX3_valueOf_110 ?_
      refine lv_iand hx hb dX3_valueOf_112 ?_
      refine lv_topi (fun z_16 ez_16 => ?_)
      refine lv_ldc hx hb hown (hts (.constant RX3 112 (2139095040)) (by decide +kernel)) dX3_valueOf_113 ?_
      refine lv_icmp_le (tgt := 124) hx hb dX3_valueOf_115 (by decide) (fun c_17 => ?_) (fun c_17 => ?_)
      · have c_17 := Int32.le_iff_toInt_le.mp c_17
        refine lv_lload_n hx hb dX3_valueOf_124 rfl (lv_at hl 1 rfl) ?_
        refine lv_l2i hx hb dX3_valueOf_125 rfl ?_
        refine lv_topi (fun z_18 ez_18 => ?_)
        refine lv_i2l (v := Int32.toInt64 z_18) hx hb dX3_valueOf_126 rfl ?_
        have k_z_19 := Int32.toInt_toInt64 z_18
        exact W.lret (v := (Int32.toInt64 z_18)) hx hb hr (fun t ht hW => ⟨⟨(Int32.toInt64 z_18), (), rfl, trivial, trivial⟩, hS.F ht⟩) hS.2.2 dX3_valueOf_127
      · have c_17 := mt Int32.le_iff_toInt_le.mpr c_17
        refine lv_ldc2 hx hb hown (hts (.constantLong RX3 113 (2143289344)) (by decide +kernel)) dX3_valueOf_118 ?_
        refine lv_goto (tgt := 127) hx hb dX3_valueOf_121 (by decide) ?_
        exact W.lret (v := 2143289344) hx hb hr (fun t ht hW => ⟨⟨2143289344, (), rfl, trivial, trivial⟩, hS.F ht⟩) hS.2.2 dX3_valueOf_127
    · refine lv_tableIn (off := 127) (tgt := 128) hx hb dX3_valueOf_1 (by omega) (by omega) (by rw [sv_1]; rfl) (by decide) ?_
      refine lv_lload_n hx hb dX3_valueOf_128 rfl (lv_at hl 1 rfl) ?_
      refine lv_ldc2 hx hb hown (hts (.constantLong RX3 115 (9223372036854775807)) (by decide +kernel)) dX3_valueOf_129 ?_
      refine lv_land hx hb dX3_valueOf_132 ?_
      refine lv_topl (fun z_20 ez_20 => ?_)
      refine lv_ldc2 hx hb hown (hts (.constantLong RX3 117 (9218868437227405312)) (by decide +kernel)) dX3_valueOf_133 ?_
      refine W.lcmp hx hb dX3_valueOf_136 ?_
      refine lv_if_le (tgt := 146) hx hb dX3_valueOf_137 (by decide) (fun c_21 => ?_) (fun c_21 => ?_)
      · have c_21 := Int64.le_iff_toInt_le.mp ((lg_cmp_le z_20 9218868437227405312).mp c_21)
        refine lv_lload_n hx hb dX3_valueOf_146 rfl (lv_at hl 1 rfl) ?_
        exact W.lret (v := v0) hx hb hr (fun t ht hW => ⟨⟨v0, (), rfl, trivial, trivial⟩, hS.F ht⟩) hS.2.2 dX3_valueOf_147
      · have c_21 := mt (fun h9 => (lg_cmp_le z_20 9218868437227405312).mpr (Int64.le_iff_toInt_le.mpr h9)) c_21
        refine lv_ldc2 hx hb hown (hts (.constantLong RX3 119 (9221120237041090560)) (by decide +kernel)) dX3_valueOf_140 ?_
        refine lv_goto (tgt := 147) hx hb dX3_valueOf_143 (by decide) ?_
        exact W.lret (v := 9221120237041090560) hx hb hr (fun t ht hW => ⟨⟨9221120237041090560, (), rfl, trivial, trivial⟩, hS.F ht⟩) hS.2.2 dX3_valueOf_147
    · refine lv_tableIn (off := 147) (tgt := 148) hx hb dX3_valueOf_1 (by omega) (by omega) (by rw [sv_1]; rfl) (by decide) ?_
      refine lv_lload_n hx hb dX3_valueOf_148 rfl (lv_at hl 1 rfl) ?_
      refine lv_l2i hx hb dX3_valueOf_149 rfl ?_
      refine lv_topi (fun z_22 ez_22 => ?_)
      refine lv_i2l (v := Int32.toInt64 z_22) hx hb dX3_valueOf_150 rfl ?_
      have k_z_23 := Int32.toInt_toInt64 z_22
      exact W.lret (v := (Int32.toInt64 z_22)) hx hb hr (fun t ht hW => ⟨⟨(Int32.toInt64 z_22), (), rfl, trivial, trivial⟩, hS.F ht⟩) hS.2.2 dX3_valueOf_151
    · refine lv_tableIn (off := 147) (tgt := 148) hx hb dX3_valueOf_1 (by omega) (by omega) (by rw [sv_1]; rfl) (by decide) ?_
      refine lv_lload_n hx hb dX3_valueOf_148 rfl (lv_at hl 1 rfl) ?_
      refine lv_l2i hx hb dX3_valueOf_149 rfl ?_
      refine lv_topi (fun z_24 ez_24 => ?_)
      refine lv_i2l (v := Int32.toInt64 z_24) hx hb dX3_valueOf_150 rfl ?_
      have k_z_25 := Int32.toInt_toInt64 z_24
      exact W.lret (v := (Int32.toInt64 z_24)) hx hb hr (fun t ht hW => ⟨⟨(Int32.toInt64 z_24), (), rfl, trivial, trivial⟩, hS.F ht⟩) hS.2.2 dX3_valueOf_151
    · refine lv_tableIn (off := 147) (tgt := 148) hx hb dX3_valueOf_1 (by omega) (by omega) (by rw [sv_1]; rfl) (by decide) ?_
      refine lv_lload_n hx hb dX3_valueOf_148 rfl (lv_at hl 1 rfl) ?_
      refine lv_l2i hx hb dX3_valueOf_149 rfl ?_
      refine lv_topi (fun z_26 ez_26 => ?_)
      refine lv_i2l (v := Int32.toInt64 z_26) hx hb dX3_valueOf_150 rfl ?_
      have k_z_27 := Int32.toInt_toInt64 z_26
      exact W.lret (v := (Int32.toInt64 z_26)) hx hb hr (fun t ht hW => ⟨⟨(Int32.toInt64 z_26), (), rfl, trivial, trivial⟩, hS.F ht⟩) hS.2.2 dX3_valueOf_151
    · refine lv_tableIn (off := 147) (tgt := 148) hx hb dX3_valueOf_1 (by omega) (by omega) (by rw [sv_1]; rfl) (by decide) ?_
      refine lv_lload_n hx hb dX3_valueOf_148 rfl (lv_at hl 1 rfl) ?_
      refine lv_l2i hx hb dX3_valueOf_149 rfl ?_
      refine lv_topi (fun z_28 ez_28 => ?_)
      refine lv_i2l (v := Int32.toInt64 z_28) hx hb dX3_valueOf_150 rfl ?_
      have k_z_29 := Int32.toInt_toInt64 z_28
      exact W.lret (v := (Int32.toInt64 z_28)) hx hb hr (fun t ht hW => ⟨⟨(Int32.toInt64 z_28), (), rfl, trivial, trivial⟩, hS.F ht⟩) hS.2.2 dX3_valueOf_151
    · refine lv_tableIn (off := 105) (tgt := 106) hx hb dX3_valueOf_1 (by omega) (by omega) (by rw [sv_1]; rfl) (by decide) ?_
      refine lv_lload_n hx hb dX3_valueOf_106 rfl (lv_at hl 1 rfl) ?_
      exact W.lret (v := v0) hx hb hr (fun t ht hW => ⟨⟨v0, (), rfl, trivial, trivial⟩, hS.F ht⟩) hS.2.2 dX3_valueOf_107
    · refine lv_tableIn (off := 147) (tgt := 148) hx hb dX3_valueOf_1 (by omega) (by omega) (by rw [sv_1]; rfl) (by decide) ?_
      refine lv_lload_n hx hb dX3_valueOf_148 rfl (lv_at hl 1 rfl) ?_
      refine lv_l2i hx hb dX3_valueOf_149 rfl ?_
      refine lv_topi (fun z_30 ez_30 => ?_)
      refine lv_i2l (v := Int32.toInt64 z_30) hx hb dX3_valueOf_150 rfl ?_
      have k_z_31 := Int32.toInt_toInt64 z_30
      exact W.lret (v := (Int32.toInt64 z_30)) hx hb hr (fun t ht hW => ⟨⟨(Int32.toInt64 z_30), (), rfl, trivial, trivial⟩, hS.F ht⟩) hS.2.2 dX3_valueOf_151
    · refine lv_tableIn (off := 127) (tgt := 128) hx hb dX3_valueOf_1 (by omega) (by omega) (by rw [sv_1]; rfl) (by decide) ?_
      refine lv_lload_n hx hb dX3_valueOf_128 rfl (lv_at hl 1 rfl) ?_
      refine lv_ldc2 hx hb hown (hts (.constantLong RX3 115 (9223372036854775807)) (by decide +kernel)) dX3_valueOf_129 ?_
      refine lv_land hx hb dX3_valueOf_132 ?_
      refine lv_topl (fun z_32 ez_32 => ?_)
      refine lv_ldc2 hx hb hown (hts (.constantLong RX3 117 (9218868437227405312)) (by decide +kernel)) dX3_valueOf_133 ?_
      refine W.lcmp hx hb dX3_valueOf_136 ?_
      refine lv_if_le (tgt := 146) hx hb dX3_valueOf_137 (by decide) (fun c_33 => ?_) (fun c_33 => ?_)
      · have c_33 := Int64.le_iff_toInt_le.mp ((lg_cmp_le z_32 9218868437227405312).mp c_33)
        refine lv_lload_n hx hb dX3_valueOf_146 rfl (lv_at hl 1 rfl) ?_
        exact W.lret (v := v0) hx hb hr (fun t ht hW => ⟨⟨v0, (), rfl, trivial, trivial⟩, hS.F ht⟩) hS.2.2 dX3_valueOf_147
      · have c_33 := mt (fun h9 => (lg_cmp_le z_32 9218868437227405312).mpr (Int64.le_iff_toInt_le.mpr h9)) c_33
        refine lv_ldc2 hx hb hown (hts (.constantLong RX3 119 (9221120237041090560)) (by decide +kernel)) dX3_valueOf_140 ?_
        refine lv_goto (tgt := 147) hx hb dX3_valueOf_143 (by decide) ?_
        exact W.lret (v := 9221120237041090560) hx hb hr (fun t ht hW => ⟨⟨9221120237041090560, (), rfl, trivial, trivial⟩, hS.F ht⟩) hS.2.2 dX3_valueOf_147
