set_option maxRecDepth 100000 in
set_option maxHeartbeats 4000000 in
theorem q_X3_has (l : Launch) (dC : Nat → ClassId) (dI : Nat → Nat → Nat) (TT : Nat × Nat × Nat) (sz : Nat) (c0 : Int32) (f0 : Int32) : Met l yX3_has wsX3_has ({ frames := 0, cells := 0, slots := 0, locals := 0 } : Room) (va_Pc [.int c0, .int f0] (pr dC dI [] [] [] sz TT)) (va_Qi (fun (r : Int32) (u : Unit) => bo r ((c0.toInt = 0 ∧ f0.toInt < 10) ∨ (c0.toInt = 1 ∧ f0.toInt < 12) ∨ (c0.toInt = 2 ∧ f0.toInt < 14) ∨ (c0.toInt = 3 ∧ (f0.toInt = 14 ∨ f0.toInt = 15)) ∨ (¬ c0.toInt = 0 ∧ ¬ c0.toInt = 1 ∧ ¬ c0.toInt = 2 ∧ ¬ c0.toInt = 3 ∧ f0.toInt = 16))) (fun _ _ => True) (va_A [] sz)) 0 0 (va_A [] sz) := by
  refine Met.ofW (cc := cX3_has) (maxL := 2) (ret := (some .boolean)) (by decide) rfl ?_
  intro p e s m args below meth c s₁ B hml hv
  obtain ⟨rfl, hsz, hP, hK, hD0, hst⟩ := hv
  have hx := B.exec
  have hb := B.bytes
  have hr := B.returns
  have hts := atoms_spec (ws := wsX3_has) B.pre
  have hown : s.vm.findClass RX3 = some m.cls := findClass_of_methodNamed B.named
  have hlocks := B.notSynchronized
  subst hsz
  have hD := hD0.self (sz := s.heap.size)
  generalize hAe : va_A [] s.heap.size = A at hD hst ⊢
  have hA : ∀ q : Nat, s.heap.size ≤ q → A q := fun q h => by rw [← hAe]; exact Or.inr h
  have hS : va_S A s.heap s.heap [] := va_S.rf
  have hl := lv_entry ([.int c0, .int f0]) (n := 2) (Nat.le_of_ble_eq_true rfl)
  rw [lg_entry_eq]
  generalize (lg_sl ([.int c0, .int f0]) ++ List.replicate (2 - (lg_sl ([.int c0, .int f0])).length) Slot.unset).toArray = ls at hl ⊢
  have hl : lv_has ls 2 [(0, .int c0), (1, .int f0)] := hl
  have k0_ : Int32.toInt 0 = 0 := by decide
  have k1_ : Int32.toInt 1 = 1 := by decide
  have k2_ : Int32.toInt 2 = 2 := by decide
  have k3_ : Int32.toInt 3 = 3 := by decide
  have k10_ : Int32.toInt 10 = 10 := by decide
  have k12_ : Int32.toInt 12 = 12 := by decide
  have k14_ : Int32.toInt 14 = 14 := by decide
  have k15_ : Int32.toInt 15 = 15 := by decide
  have k16_ : Int32.toInt 16 = 16 := by decide
  refine lv_iload_n hx hb dX3_has_0 rfl (lv_at hl 0 rfl) ?_
  refine lv_if_ne (tgt := 18) hx hb dX3_has_1 (by decide) (fun c_1 => ?_) (fun c_1 => ?_)
  · have c_1 := mt Int32.toInt_inj.mp c_1
    refine lv_iload_n hx hb dX3_has_18 rfl (lv_at hl 0 rfl) ?_
    refine lv_iconst (v := 1) hx hb dX3_has_19 (by decide) ?_
    refine lv_icmp_ne (tgt := 37) hx hb dX3_has_20 (by decide) (fun c_2 => ?_) (fun c_2 => ?_)
    · have c_2 := mt Int32.toInt_inj.mp c_2
      refine lv_iload_n hx hb dX3_has_37 rfl (lv_at hl 0 rfl) ?_
      refine lv_iconst (v := 2) hx hb dX3_has_38 (by decide) ?_
      refine lv_icmp_ne (tgt := 56) hx hb dX3_has_39 (by decide) (fun c_3 => ?_) (fun c_3 => ?_)
      · have c_3 := mt Int32.toInt_inj.mp c_3
        refine lv_iload_n hx hb dX3_has_56 rfl (lv_at hl 0 rfl) ?_
        refine lv_iconst (v := 3) hx hb dX3_has_57 (by decide) ?_
        refine lv_icmp_ne (tgt := 81) hx hb dX3_has_58 (by decide) (fun c_4 => ?_) (fun c_4 => ?_)
        · have c_4 := mt Int32.toInt_inj.mp c_4
          refine lv_iload_n hx hb dX3_has_81 rfl (lv_at hl 1 rfl) ?_
          refine lv_bipush (v := 16) hx hb dX3_has_82 (by decide) ?_
          refine lv_icmp_ne (tgt := 91) hx hb dX3_has_84 (by decide) (fun c_5 => ?_) (fun c_5 => ?_)
          · have c_5 := mt Int32.toInt_inj.mp c_5
            refine lv_iconst (v := 0) hx hb dX3_has_91 (by decide) ?_
            exact W.zret (v := 0) hx hb hr rfl (fun t ht hW => ⟨⟨0, (), rfl, Or.inr ⟨rfl, by omega⟩, trivial⟩, hS.F ht⟩) hS.2.2 dX3_has_92
          · have c_5 := congrArg Int32.toInt c_5
            refine lv_iconst (v := 1) hx hb dX3_has_87 (by decide) ?_
            refine lv_goto (tgt := 92) hx hb dX3_has_88 (by decide) ?_
            exact W.zret (v := 1) hx hb hr rfl (fun t ht hW => ⟨⟨1, (), rfl, Or.inl ⟨rfl, by omega⟩, trivial⟩, hS.F ht⟩) hS.2.2 dX3_has_92
        · have c_4 := congrArg Int32.toInt c_4
          refine lv_iload_n hx hb dX3_has_61 rfl (lv_at hl 1 rfl) ?_
          refine lv_bipush (v := 14) hx hb dX3_has_62 (by decide) ?_
          refine lv_icmp_eq (tgt := 73) hx hb dX3_has_64 (by decide) (fun c_6 => ?_) (fun c_6 => ?_)
          · have c_6 := congrArg Int32.toInt c_6
            refine lv_iconst (v := 1) hx hb dX3_has_73 (by decide) ?_
            refine lv_goto (tgt := 92) hx hb dX3_has_74 (by decide) ?_
            exact W.zret (v := 1) hx hb hr rfl (fun t ht hW => ⟨⟨1, (), rfl, Or.inl ⟨rfl, by omega⟩, trivial⟩, hS.F ht⟩) hS.2.2 dX3_has_92
          · have c_6 := mt Int32.toInt_inj.mp c_6
            refine lv_iload_n hx hb dX3_has_67 rfl (lv_at hl 1 rfl) ?_
            refine lv_bipush (v := 15) hx hb dX3_has_68 (by decide) ?_
            refine lv_icmp_ne (tgt := 77) hx hb dX3_has_70 (by decide) (fun c_7 => ?_) (fun c_7 => ?_)
            · have c_7 := mt Int32.toInt_inj.mp c_7
              refine lv_iconst (v := 0) hx hb dX3_has_77 (by decide) ?_
              refine lv_goto (tgt := 92) hx hb dX3_has_78 (by decide) ?_
              exact W.zret (v := 0) hx hb hr rfl (fun t ht hW => ⟨⟨0, (), rfl, Or.inr ⟨rfl, by omega⟩, trivial⟩, hS.F ht⟩) hS.2.2 dX3_has_92
            · have c_7 := congrArg Int32.toInt c_7
              refine lv_iconst (v := 1) hx hb dX3_has_73 (by decide) ?_
              refine lv_goto (tgt := 92) hx hb dX3_has_74 (by decide) ?_
              exact W.zret (v := 1) hx hb hr rfl (fun t ht hW => ⟨⟨1, (), rfl, Or.inl ⟨rfl, by omega⟩, trivial⟩, hS.F ht⟩) hS.2.2 dX3_has_92
      · have c_3 := congrArg Int32.toInt c_3
        refine lv_iload_n hx hb dX3_has_42 rfl (lv_at hl 1 rfl) ?_
        refine lv_bipush (v := 14) hx hb dX3_has_43 (by decide) ?_
        refine lv_icmp_ge (tgt := 52) hx hb dX3_has_45 (by decide) (fun c_8 => ?_) (fun c_8 => ?_)
        · have c_8 := Int32.le_iff_toInt_le.mp c_8
          refine lv_iconst (v := 0) hx hb dX3_has_52 (by decide) ?_
          refine lv_goto (tgt := 92) hx hb dX3_has_53 (by decide) ?_
          exact W.zret (v := 0) hx hb hr rfl (fun t ht hW => ⟨⟨0, (), rfl, Or.inr ⟨rfl, by omega⟩, trivial⟩, hS.F ht⟩) hS.2.2 dX3_has_92
        · have c_8 := mt Int32.le_iff_toInt_le.mpr c_8
          refine lv_iconst (v := 1) hx hb dX3_has_48 (by decide) ?_
          refine lv_goto (tgt := 92) hx hb dX3_has_49 (by decide) ?_
          exact W.zret (v := 1) hx hb hr rfl (fun t ht hW => ⟨⟨1, (), rfl, Or.inl ⟨rfl, by omega⟩, trivial⟩, hS.F ht⟩) hS.2.2 dX3_has_92
    · have c_2 := congrArg Int32.toInt c_2
      refine lv_iload_n hx hb dX3_has_23 rfl (lv_at hl 1 rfl) ?_
      refine lv_bipush (v := 12) hx hb dX3_has_24 (by decide) ?_
      refine lv_icmp_ge (tgt := 33) hx hb dX3_has_26 (by decide) (fun c_9 => ?_) (fun c_9 => ?_)
      · have c_9 := Int32.le_iff_toInt_le.mp c_9
        refine lv_iconst (v := 0) hx hb dX3_has_33 (by decide) ?_
        refine lv_goto (tgt := 92) hx hb dX3_has_34 (by decide) ?_
        exact W.zret (v := 0) hx hb hr rfl (fun t ht hW => ⟨⟨0, (), rfl, Or.inr ⟨rfl, by omega⟩, trivial⟩, hS.F ht⟩) hS.2.2 dX3_has_92
      · have c_9 := mt Int32.le_iff_toInt_le.mpr c_9
        refine lv_iconst (v := 1) hx hb dX3_has_29 (by decide) ?_
        refine lv_goto (tgt := 92) hx hb dX3_has_30 (by decide) ?_
        exact W.zret (v := 1) hx hb hr rfl (fun t ht hW => ⟨⟨1, (), rfl, Or.inl ⟨rfl, by omega⟩, trivial⟩, hS.F ht⟩) hS.2.2 dX3_has_92
  · have c_1 := congrArg Int32.toInt c_1
    refine lv_iload_n hx hb dX3_has_4 rfl (lv_at hl 1 rfl) ?_
    refine lv_bipush (v := 10) hx hb dX3_has_5 (by decide) ?_
    refine lv_icmp_ge (tgt := 14) hx hb dX3_has_7 (by decide) (fun c_10 => ?_) (fun c_10 => ?_)
    · have c_10 := Int32.le_iff_toInt_le.mp c_10
      refine lv_iconst (v := 0) hx hb dX3_has_14 (by decide) ?_
      refine lv_goto (tgt := 92) hx hb dX3_has_15 (by decide) ?_
      exact W.zret (v := 0) hx hb hr rfl (fun t ht hW => ⟨⟨0, (), rfl, Or.inr ⟨rfl, by omega⟩, trivial⟩, hS.F ht⟩) hS.2.2 dX3_has_92
    · have c_10 := mt Int32.le_iff_toInt_le.mpr c_10
      refine lv_iconst (v := 1) hx hb dX3_has_10 (by decide) ?_
      refine lv_goto (tgt := 92) hx hb dX3_has_11 (by decide) ?_
      exact W.zret (v := 1) hx hb hr rfl (fun t ht hW => ⟨⟨1, (), rfl, Or.inl ⟨rfl, by omega⟩, trivial⟩, hS.F ht⟩) hS.2.2 dX3_has_92
