set_option maxRecDepth 100000 in
set_option maxHeartbeats 4000000 in
theorem c_X2_isFinal (l : Launch) (dC : Nat → ClassId) (dI : Nat → Nat → Nat) (TT : Nat × Nat × Nat) (sz : Nat) (f0 : Int32) : Met l yX2_isFinal wsX2_isFinal ({ frames := 0, cells := 0, slots := 0, locals := 0 } : Room) (va_Pc [.int f0] (pr dC dI [] [] [] sz TT)) (va_Qi (fun (r : Int32) (u : Unit) => bo r (f0.toInt = 13 ∨ f0.toInt = 16)) (fun _ _ => True) (va_A [] sz)) 0 0 (va_A [] sz) := by
  refine Met.ofW (cc := cX2_isFinal) (maxL := 1) (ret := (some .boolean)) (by decide) rfl ?_
  intro p e s m args below meth c s₁ B hml hv
  obtain ⟨rfl, hsz, hP, hK, hD0, hst⟩ := hv
  have hx := B.exec
  have hb := B.bytes
  have hr := B.returns
  have hts := atoms_spec (ws := wsX2_isFinal) B.pre
  have hown : s.vm.findClass RX2 = some m.cls := findClass_of_methodNamed B.named
  have hlocks := B.notSynchronized
  subst hsz
  have hD := hD0.self (sz := s.heap.size)
  generalize hAe : va_A [] s.heap.size = A at hD hst ⊢
  have hA : ∀ q : Nat, s.heap.size ≤ q → A q := fun q h => by rw [← hAe]; exact Or.inr h
  have hS : va_S A s.heap s.heap [] := va_S.rf
  have hl := lv_entry ([.int f0]) (n := 1) (Nat.le_of_ble_eq_true rfl)
  rw [lg_entry_eq]
  generalize (lg_sl ([.int f0]) ++ List.replicate (1 - (lg_sl ([.int f0])).length) Slot.unset).toArray = ls at hl ⊢
  have hl : lv_has ls 1 [(0, .int f0)] := hl
  have k0_ : Int32.toInt 0 = 0 := by decide
  have k1_ : Int32.toInt 1 = 1 := by decide
  have k13_ : Int32.toInt 13 = 13 := by decide
  have k16_ : Int32.toInt 16 = 16 := by decide
  refine lv_iload_n hx hb dX2_isFinal_0 rfl (lv_at hl 0 rfl) ?_
  refine lv_bipush (v := 13) hx hb dX2_isFinal_1 (by decide) ?_
  refine lv_icmp_eq (tgt := 12) hx hb dX2_isFinal_3 (by decide) (fun c_1 => ?_) (fun c_1 => ?_)
  · have c_1 := congrArg Int32.toInt c_1
    refine lv_iconst (v := 1) hx hb dX2_isFinal_12 (by decide) ?_
    refine lv_goto (tgt := 17) hx hb dX2_isFinal_13 (by decide) ?_
    exact W.zret (v := 1) hx hb hr rfl (fun t ht hW => ⟨⟨1, (), rfl, Or.inl ⟨rfl, by omega⟩, trivial⟩, hS.F ht⟩) hS.2.2 dX2_isFinal_17
  · have c_1 := mt Int32.toInt_inj.mp c_1
    refine lv_iload_n hx hb dX2_isFinal_6 rfl (lv_at hl 0 rfl) ?_
    refine lv_bipush (v := 16) hx hb dX2_isFinal_7 (by decide) ?_
    refine lv_icmp_ne (tgt := 16) hx hb dX2_isFinal_9 (by decide) (fun c_2 => ?_) (fun c_2 => ?_)
    · have c_2 := mt Int32.toInt_inj.mp c_2
      refine lv_iconst (v := 0) hx hb dX2_isFinal_16 (by decide) ?_
      exact W.zret (v := 0) hx hb hr rfl (fun t ht hW => ⟨⟨0, (), rfl, Or.inr ⟨rfl, by omega⟩, trivial⟩, hS.F ht⟩) hS.2.2 dX2_isFinal_17
    · have c_2 := congrArg Int32.toInt c_2
      refine lv_iconst (v := 1) hx hb dX2_isFinal_12 (by decide) ?_
      refine lv_goto (tgt := 17) hx hb dX2_isFinal_13 (by decide) ?_
      exact W.zret (v := 1) hx hb hr rfl (fun t ht hW => ⟨⟨1, (), rfl, Or.inl ⟨rfl, by omega⟩, trivial⟩, hS.F ht⟩) hS.2.2 dX2_isFinal_17
