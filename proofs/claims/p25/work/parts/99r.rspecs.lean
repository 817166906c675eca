-- WHAT THE REFERENCE ANSWERS AND CHANGES, call by call
def RV (kI kJ : ClassId) (K : Nat → Nat) (L : List Nat) (f : Nat → va_E) (g : Nat) (fS fC : Nat → Int32) (fF : Nat → Int64) (fR fW lo ld : Nat → Int32) (lv : Nat → Int64) (lm pa : Int32) : Prop := SV kI kJ K L f fS fC fF ∧ ((∀ q, isr K L 14 q → f q = .inl (kI, 6400, .inl fR)) ∧ ∀ q, isr K L 15 q → f q = .inl (kI, 128000, .inl fW)) ∧ ((∀ q, isr K L 18 q → f q = .inl (kI, 300, .inl lo)) ∧ (∀ q, isr K L 19 q → f q = .inl (kI, 300, .inl ld)) ∧ ∀ q, isr K L 20 q → f q = .inl (kJ, 300, .inr (.inl lv))) ∧ cI (f g) 8 = lm ∧ cI (f g) 7 = pa
theorem un_row {K : Nat → Nat} {L : List Nat} {f : Nat → va_E} {k q0 : Nat} {e : va_E} (hU : UN K L) (i : isr K L k q0) (he : f q0 = e) : ∀ q, isr K L k q → f q = e := fun q h => by
  have a := hU q0 q i.1 h.1 (i.2.trans h.2.symm)
  subst a
  exact he
theorem idx20 {o f w : Int32} (ho : 0 ≤ o.toInt) (hf : 0 ≤ f.toInt) (hw : w.toInt = 20 * o.toInt + f.toInt) : Int32.toNatClampNeg w = 20 * Int32.toNatClampNeg o + Int32.toNatClampNeg f := by
  have e1 := clamp_int ho
  have e2 := clamp_int hf
  have e3 := clamp_int (i := w) (by omega)
  omega
def rs_same (fS : Nat → Int32) (s t : Int32) : Int32 := if (0 ≤ s.toInt ∧ s.toInt < 12) ∧ (0 ≤ t.toInt ∧ t.toInt < 12) then (if (fS (Int32.toNatClampNeg s)).toInt = (fS (Int32.toNatClampNeg t)).toInt then 1 else 0) else -1
def rs_cls (fS fC : Nat → Int32) (s : Int32) : Int32 := if (0 ≤ s.toInt ∧ s.toInt < 12) then (if (fS (Int32.toNatClampNeg s)).toInt = -1 then -4 else (fC (Int32.toNatClampNeg (fS (Int32.toNatClampNeg s))))) else -1
def rs_is (fS fC : Nat → Int32) (s w : Int32) : Int32 := if (0 ≤ s.toInt ∧ s.toInt < 12) ∧ 0 ≤ w.toInt ∧ w.toInt ≤ 5 then (if (fS (Int32.toNatClampNeg s)).toInt = -1 then 0 else if ((w.toInt = 5 ∧ ((fC (Int32.toNatClampNeg (fS (Int32.toNatClampNeg s))))).toInt < 4) ∨ (¬ w.toInt = 5 ∧ (((fC (Int32.toNatClampNeg (fS (Int32.toNatClampNeg s))))).toInt = w.toInt ∨ (w.toInt < ((fC (Int32.toNatClampNeg (fS (Int32.toNatClampNeg s))))).toInt ∧ ((fC (Int32.toNatClampNeg (fS (Int32.toNatClampNeg s))))).toInt < 3)))) then 1 else 0) else -1
def rs_get (fS fC : Nat → Int32) (fF : Nat → Int64) (s w : Int32) : Int64 := if (0 ≤ s.toInt ∧ s.toInt < 12) ∧ (0 ≤ w.toInt ∧ w.toInt < 17 ∧ ¬ w.toInt = 8 ∧ ¬ w.toInt = 9 ∧ ¬ w.toInt = 11 ∧ ¬ w.toInt = 15) then (if (fS (Int32.toNatClampNeg s)).toInt = -1 then -11 else if ((((fC (Int32.toNatClampNeg (fS (Int32.toNatClampNeg s))))).toInt = 0 ∧ w.toInt < 10) ∨ (((fC (Int32.toNatClampNeg (fS (Int32.toNatClampNeg s))))).toInt = 1 ∧ w.toInt < 12) ∨ (((fC (Int32.toNatClampNeg (fS (Int32.toNatClampNeg s))))).toInt = 2 ∧ w.toInt < 14) ∨ (((fC (Int32.toNatClampNeg (fS (Int32.toNatClampNeg s))))).toInt = 3 ∧ (w.toInt = 14 ∨ w.toInt = 15)) ∨ (¬ ((fC (Int32.toNatClampNeg (fS (Int32.toNatClampNeg s))))).toInt = 0 ∧ ¬ ((fC (Int32.toNatClampNeg (fS (Int32.toNatClampNeg s))))).toInt = 1 ∧ ¬ ((fC (Int32.toNatClampNeg (fS (Int32.toNatClampNeg s))))).toInt = 2 ∧ ¬ ((fC (Int32.toNatClampNeg (fS (Int32.toNatClampNeg s))))).toInt = 3 ∧ w.toInt = 16)) then (fF (17 * (Int32.toNatClampNeg (fS (Int32.toNatClampNeg s))) + (Int32.toNatClampNeg w))) else -14) else -1
def rs_length (fS fC : Nat → Int32) (fR : Nat → Int32) (s : Int32) : Int32 := if (0 ≤ s.toInt ∧ s.toInt < 12) then (if (fS (Int32.toNatClampNeg s)).toInt = -1 then -11 else if ((((fC (Int32.toNatClampNeg (fS (Int32.toNatClampNeg s))))).toInt = 0) ∨ (((fC (Int32.toNatClampNeg (fS (Int32.toNatClampNeg s))))).toInt = 1) ∨ (((fC (Int32.toNatClampNeg (fS (Int32.toNatClampNeg s))))).toInt = 2)) then (if (fR (Int32.toNatClampNeg (fS (Int32.toNatClampNeg s)))).toInt = -1 then -11 else fR (Int32.toNatClampNeg (fS (Int32.toNatClampNeg s)))) else -14) else -1
def rs_count (fS fC : Nat → Int32) (fF : Nat → Int64) (s w : Int32) : Int64 := if (0 ≤ s.toInt ∧ s.toInt < 12) ∧ 0 ≤ w.toInt ∧ w.toInt ≤ 2 then (if (fS (Int32.toNatClampNeg s)).toInt = -1 then -11 else if ((w.toInt = 5 ∧ ((fC (Int32.toNatClampNeg (fS (Int32.toNatClampNeg s))))).toInt < 4) ∨ (¬ w.toInt = 5 ∧ (((fC (Int32.toNatClampNeg (fS (Int32.toNatClampNeg s))))).toInt = w.toInt ∨ (w.toInt < ((fC (Int32.toNatClampNeg (fS (Int32.toNatClampNeg s))))).toInt ∧ ((fC (Int32.toNatClampNeg (fS (Int32.toNatClampNeg s))))).toInt < 3)))) then (if w.toInt = 0 then (fF (17 * (Int32.toNatClampNeg (fS (Int32.toNatClampNeg s))) + 4)) else if w.toInt = 1 then (fF (17 * (Int32.toNatClampNeg (fS (Int32.toNatClampNeg s))) + 10)) else (fF (17 * (Int32.toNatClampNeg (fS (Int32.toNatClampNeg s))) + 12))) else -14) else -1
def rs_raise (fS fC : Nat → Int32) (fF : Nat → Int64) (s : Int32) : Int32 := if (0 ≤ s.toInt ∧ s.toInt < 12) then (if (fS (Int32.toNatClampNeg s)).toInt = -1 then -11 else if (fC (Int32.toNatClampNeg (fS (Int32.toNatClampNeg s)))).toInt = 4 then (fF (17 * (Int32.toNatClampNeg (fS (Int32.toNatClampNeg s))) + 16)).toInt32 else -14) else -1
def rs_name (c : Int32) (V : Nat → Int64) : Int32 := if 0 < c.toInt then (if c.toInt = 2 then 10 * (1 + (V 4).toInt32) + (V 10).toInt32 + (V 13).toInt32 else 10 * (1 + (V 4).toInt32) + (V 10).toInt32) else (if c.toInt = 2 then 1 + (V 4).toInt32 + (V 13).toInt32 else 1 + (V 4).toInt32)
set_option maxRecDepth 100000 in
set_option maxHeartbeats 4000000 in
theorem v_X3_isBelow (l : Launch) (dC : Nat → ClassId) (dI : Nat → Nat → Nat) (TT : Nat × Nat × Nat) (sz : Nat) (c0 : Int32) (f0 : Int32) : Met l yX3_isBelow wsX3_isBelow ({ frames := 0, cells := 0, slots := 0, locals := 0 } : Room) (va_Pc [.int c0, .int f0] (pr dC dI [] [] [] sz TT)) (va_Qi (fun (r : Int32) (u : Unit) => bo r ((f0.toInt = 5 ∧ (c0).toInt < 4) ∨ (¬ f0.toInt = 5 ∧ ((c0).toInt = f0.toInt ∨ (f0.toInt < (c0).toInt ∧ (c0).toInt < 3))))) (fun _ _ => True) (va_A [] sz)) 0 0 (va_A [] sz) := by
  refine Met.ofW (cc := cX3_isBelow) (maxL := 2) (ret := (some .boolean)) (by decide) rfl ?_
  intro p e s m args below meth c s₁ B hml hv
  obtain ⟨rfl, hsz, hP, hK, hD0, hst⟩ := hv
  have hx := B.exec
  have hb := B.bytes
  have hr := B.returns
  have hts := atoms_spec (ws := wsX3_isBelow) B.pre
  have hown : s.vm.findClass RX3 = some m.cls := findClass_of_methodNamed B.named
  have hlocks := B.notSynchronized
  subst hsz
  have hD := hD0.self (sz := s.heap.size)
  generalize hAe : va_A [] s.heap.size = A at hD hst ⊢
  have hA : ∀ q : Nat, s.heap.size ≤ q → A q := fun q h => by rw [← hAe]; exact Or.inr h
  have hS : va_S A s.heap s.heap [] := va_S.rf
  have hl := lv_entry ([.int c0, .int f0]) (n := 2) (Nat.le_of_ble_eq_true rfl)
  rw [lg_entry_eq]
  generalize (lg_sl ([.int c0, .int f0]) ++ List.replicate (2 - (lg_sl ([.int c0, .int f0])).length) Slot.unset).toArray = ls at hl ⊢
  have hl : lv_has ls 2 [(0, .int c0), (1, .int f0)] := hl
  have k0_ : Int32.toInt 0 = 0 := by decide
  have k1_ : Int32.toInt 1 = 1 := by decide
  have k3_ : Int32.toInt 3 = 3 := by decide
  have k4_ : Int32.toInt 4 = 4 := by decide
  have k5_ : Int32.toInt 5 = 5 := by decide
  refine lv_iload_n hx hb dX3_isBelow_0 rfl (lv_at hl 1 rfl) ?_
  refine lv_iconst (v := 5) hx hb dX3_isBelow_1 (by decide) ?_
  refine lv_icmp_ne (tgt := 18) hx hb dX3_isBelow_2 (by decide) (fun c_1 => ?_) (fun c_1 => ?_)
  · have c_1 := mt Int32.toInt_inj.mp c_1
    refine lv_iload_n hx hb dX3_isBelow_18 rfl (lv_at hl 0 rfl) ?_
    refine lv_iload_n hx hb dX3_isBelow_19 rfl (lv_at hl 1 rfl) ?_
    refine lv_icmp_eq (tgt := 33) hx hb dX3_isBelow_20 (by decide) (fun c_2 => ?_) (fun c_2 => ?_)
    · have c_2 := congrArg Int32.toInt c_2
      refine lv_iconst (v := 1) hx hb dX3_isBelow_33 (by decide) ?_
      refine lv_goto (tgt := 38) hx hb dX3_isBelow_34 (by decide) ?_
      exact W.zret (v := 1) hx hb hr rfl (fun t ht hW => ⟨⟨1, (), rfl, Or.inl ⟨rfl, by omega⟩, trivial⟩, hS.F ht⟩) hS.2.2 dX3_isBelow_38
    · have c_2 := mt Int32.toInt_inj.mp c_2
      refine lv_iload_n hx hb dX3_isBelow_23 rfl (lv_at hl 1 rfl) ?_
      refine lv_iload_n hx hb dX3_isBelow_24 rfl (lv_at hl 0 rfl) ?_
      refine lv_icmp_ge (tgt := 37) hx hb dX3_isBelow_25 (by decide) (fun c_3 => ?_) (fun c_3 => ?_)
      · have c_3 := Int32.le_iff_toInt_le.mp c_3
        refine lv_iconst (v := 0) hx hb dX3_isBelow_37 (by decide) ?_
        exact W.zret (v := 0) hx hb hr rfl (fun t ht hW => ⟨⟨0, (), rfl, Or.inr ⟨rfl, by omega⟩, trivial⟩, hS.F ht⟩) hS.2.2 dX3_isBelow_38
      · have c_3 := mt Int32.le_iff_toInt_le.mpr c_3
        refine lv_iload_n hx hb dX3_isBelow_28 rfl (lv_at hl 0 rfl) ?_
        refine lv_iconst (v := 3) hx hb dX3_isBelow_29 (by decide) ?_
        refine lv_icmp_ge (tgt := 37) hx hb dX3_isBelow_30 (by decide) (fun c_4 => ?_) (fun c_4 => ?_)
        · have c_4 := Int32.le_iff_toInt_le.mp c_4
          refine lv_iconst (v := 0) hx hb dX3_isBelow_37 (by decide) ?_
          exact W.zret (v := 0) hx hb hr rfl (fun t ht hW => ⟨⟨0, (), rfl, Or.inr ⟨rfl, by omega⟩, trivial⟩, hS.F ht⟩) hS.2.2 dX3_isBelow_38
        · have c_4 := mt Int32.le_iff_toInt_le.mpr c_4
          refine lv_iconst (v := 1) hx hb dX3_isBelow_33 (by decide) ?_
          refine lv_goto (tgt := 38) hx hb dX3_isBelow_34 (by decide) ?_
          exact W.zret (v := 1) hx hb hr rfl (fun t ht hW => ⟨⟨1, (), rfl, Or.inl ⟨rfl, by omega⟩, trivial⟩, hS.F ht⟩) hS.2.2 dX3_isBelow_38
  · have c_1 := congrArg Int32.toInt c_1
    refine lv_iload_n hx hb dX3_isBelow_5 rfl (lv_at hl 0 rfl) ?_
    refine lv_iconst (v := 4) hx hb dX3_isBelow_6 (by decide) ?_
    refine lv_icmp_ge (tgt := 14) hx hb dX3_isBelow_7 (by decide) (fun c_5 => ?_) (fun c_5 => ?_)
    · have c_5 := Int32.le_iff_toInt_le.mp c_5
      refine lv_iconst (v := 0) hx hb dX3_isBelow_14 (by decide) ?_
      refine lv_goto (tgt := 38) hx hb dX3_isBelow_15 (by decide) ?_
      exact W.zret (v := 0) hx hb hr rfl (fun t ht hW => ⟨⟨0, (), rfl, Or.inr ⟨rfl, by omega⟩, trivial⟩, hS.F ht⟩) hS.2.2 dX3_isBelow_38
    · have c_5 := mt Int32.le_iff_toInt_le.mpr c_5
      refine lv_iconst (v := 1) hx hb dX3_isBelow_10 (by decide) ?_
      refine lv_goto (tgt := 38) hx hb dX3_isBelow_11 (by decide) ?_
      exact W.zret (v := 1) hx hb hr rfl (fun t ht hW => ⟨⟨1, (), rfl, Or.inl ⟨rfl, by omega⟩, trivial⟩, hS.F ht⟩) hS.2.2 dX3_isBelow_38
set_option maxRecDepth 100000 in
set_option maxHeartbeats 4000000 in
theorem v_X3_mayBeIn (l : Launch) (dC : Nat → ClassId) (dI : Nat → Nat → Nat) (TT : Nat × Nat × Nat) (sz : Nat) (c0 : Int32) (f0 : Int32) : Met l yX3_mayBeIn wsX3_mayBeIn ({ frames := 0, cells := 0, slots := 0, locals := 0 } : Room) (va_Pc [.int c0, .int f0] (pr dC dI [] [] [] sz TT)) (va_Qi (fun (r : Int32) (u : Unit) => bo r ((f0.toInt = 8 ∧ (c0).toInt < 3) ∨ (¬ f0.toInt = 8 ∧ f0.toInt = 11 ∧ ((c0).toInt = 1 ∨ (c0).toInt = 2)) ∨ (¬ f0.toInt = 8 ∧ ¬ f0.toInt = 11 ∧ (c0).toInt < 4))) (fun _ _ => True) (va_A [] sz)) 0 0 (va_A [] sz) := by
  refine Met.ofW (cc := cX3_mayBeIn) (maxL := 2) (ret := (some .boolean)) (by decide) rfl ?_
  intro p e s m args below meth c s₁ B hml hv
  obtain ⟨rfl, hsz, hP, hK, hD0, hst⟩ := hv
  have hx := B.exec
  have hb := B.bytes
  have hr := B.returns
  have hts := atoms_spec (ws := wsX3_mayBeIn) B.pre
  have hown : s.vm.findClass RX3 = some m.cls := findClass_of_methodNamed B.named
  have hlocks := B.notSynchronized
  subst hsz
  have hD := hD0.self (sz := s.heap.size)
  generalize hAe : va_A [] s.heap.size = A at hD hst ⊢
  have hA : ∀ q : Nat, s.heap.size ≤ q → A q := fun q h => by rw [← hAe]; exact Or.inr h
  have hS : va_S A s.heap s.heap [] := va_S.rf
  have hl := lv_entry ([.int c0, .int f0]) (n := 2) (Nat.le_of_ble_eq_true rfl)
  rw [lg_entry_eq]
  generalize (lg_sl ([.int c0, .int f0]) ++ List.replicate (2 - (lg_sl ([.int c0, .int f0])).length) Slot.unset).toArray = ls at hl ⊢
  have hl : lv_has ls 2 [(0, .int c0), (1, .int f0)] := hl
  have k0_ : Int32.toInt 0 = 0 := by decide
  have k1_ : Int32.toInt 1 = 1 := by decide
  have k2_ : Int32.toInt 2 = 2 := by decide
  have k3_ : Int32.toInt 3 = 3 := by decide
  have k4_ : Int32.toInt 4 = 4 := by decide
  have k8_ : Int32.toInt 8 = 8 := by decide
  have k11_ : Int32.toInt 11 = 11 := by decide
  refine lv_iload_n hx hb dX3_mayBeIn_0 rfl (lv_at hl 1 rfl) ?_
  refine lv_bipush (v := 8) hx hb dX3_mayBeIn_1 (by decide) ?_
  refine lv_icmp_ne (tgt := 19) hx hb dX3_mayBeIn_3 (by decide) (fun c_1 => ?_) (fun c_1 => ?_)
  · have c_1 := mt Int32.toInt_inj.mp c_1
    refine lv_iload_n hx hb dX3_mayBeIn_19 rfl (lv_at hl 1 rfl) ?_
    refine lv_bipush (v := 11) hx hb dX3_mayBeIn_20 (by decide) ?_
    refine lv_icmp_ne (tgt := 43) hx hb dX3_mayBeIn_22 (by decide) (fun c_2 => ?_) (fun c_2 => ?_)
    · have c_2 := mt Int32.toInt_inj.mp c_2
      refine lv_iload_n hx hb dX3_mayBeIn_43 rfl (lv_at hl 0 rfl) ?_
      refine lv_iconst (v := 4) hx hb dX3_mayBeIn_44 (by decide) ?_
      refine lv_icmp_ge (tgt := 52) hx hb dX3_mayBeIn_45 (by decide) (fun c_3 => ?_) (fun c_3 => ?_)
      · have c_3 := Int32.le_iff_toInt_le.mp c_3
        refine lv_iconst (v := 0) hx hb dX3_mayBeIn_52 (by decide) ?_
        exact W.zret (v := 0) hx hb hr rfl (fun t ht hW => ⟨⟨0, (), rfl, Or.inr ⟨rfl, by omega⟩, trivial⟩, hS.F ht⟩) hS.2.2 dX3_mayBeIn_53
      · have c_3 := mt Int32.le_iff_toInt_le.mpr c_3
        refine lv_iconst (v := 1) hx hb dX3_mayBeIn_48 (by decide) ?_
        refine lv_goto (tgt := 53) hx hb dX3_mayBeIn_49 (by decide) ?_
        exact W.zret (v := 1) hx hb hr rfl (fun t ht hW => ⟨⟨1, (), rfl, Or.inl ⟨rfl, by omega⟩, trivial⟩, hS.F ht⟩) hS.2.2 dX3_mayBeIn_53
    · have c_2 := congrArg Int32.toInt c_2
      refine lv_iload_n hx hb dX3_mayBeIn_25 rfl (lv_at hl 0 rfl) ?_
      refine lv_iconst (v := 1) hx hb dX3_mayBeIn_26 (by decide) ?_
      refine lv_icmp_eq (tgt := 35) hx hb dX3_mayBeIn_27 (by decide) (fun c_4 => ?_) (fun c_4 => ?_)
      · have c_4 := congrArg Int32.toInt c_4
        refine lv_iconst (v := 1) hx hb dX3_mayBeIn_35 (by decide) ?_
        refine lv_goto (tgt := 53) hx hb dX3_mayBeIn_36 (by decide) ?_
        exact W.zret (v := 1) hx hb hr rfl (fun t ht hW => ⟨⟨1, (), rfl, Or.inl ⟨rfl, by omega⟩, trivial⟩, hS.F ht⟩) hS.2.2 dX3_mayBeIn_53
      · have c_4 := mt Int32.toInt_inj.mp c_4
        refine lv_iload_n hx hb dX3_mayBeIn_30 rfl (lv_at hl 0 rfl) ?_
        refine lv_iconst (v := 2) hx hb dX3_mayBeIn_31 (by decide) ?_
        refine lv_icmp_ne (tgt := 39) hx hb dX3_mayBeIn_32 (by decide) (fun c_5 => ?_) (fun c_5 => ?_)
        · have c_5 := mt Int32.toInt_inj.mp c_5
          refine lv_iconst (v := 0) hx hb dX3_mayBeIn_39 (by decide) ?_
          refine lv_goto (tgt := 53) hx hb dX3_mayBeIn_40 (by decide) ?_
          exact W.zret (v := 0) hx hb hr rfl (fun t ht hW => ⟨⟨0, (), rfl, Or.inr ⟨rfl, by omega⟩, trivial⟩, hS.F ht⟩) hS.2.2 dX3_mayBeIn_53
        · have c_5 := congrArg Int32.toInt c_5
          refine lv_iconst (v := 1) hx hb dX3_mayBeIn_35 (by decide) ?_
          refine lv_goto (tgt := 53) hx hb dX3_mayBeIn_36 (by decide) ?_
          exact W.zret (v := 1) hx hb hr rfl (fun t ht hW => ⟨⟨1, (), rfl, Or.inl ⟨rfl, by omega⟩, trivial⟩, hS.F ht⟩) hS.2.2 dX3_mayBeIn_53
  · have c_1 := congrArg Int32.toInt c_1
    refine lv_iload_n hx hb dX3_mayBeIn_6 rfl (lv_at hl 0 rfl) ?_
    refine lv_iconst (v := 3) hx hb dX3_mayBeIn_7 (by decide) ?_
    refine lv_icmp_ge (tgt := 15) hx hb dX3_mayBeIn_8 (by decide) (fun c_6 => ?_) (fun c_6 => ?_)
    · have c_6 := Int32.le_iff_toInt_le.mp c_6
      refine lv_iconst (v := 0) hx hb dX3_mayBeIn_15 (by decide) ?_
      refine lv_goto (tgt := 53) hx hb dX3_mayBeIn_16 (by decide) ?_
      exact W.zret (v := 0) hx hb hr rfl (fun t ht hW => ⟨⟨0, (), rfl, Or.inr ⟨rfl, by omega⟩, trivial⟩, hS.F ht⟩) hS.2.2 dX3_mayBeIn_53
    · have c_6 := mt Int32.le_iff_toInt_le.mpr c_6
      refine lv_iconst (v := 1) hx hb dX3_mayBeIn_11 (by decide) ?_
      refine lv_goto (tgt := 53) hx hb dX3_mayBeIn_12 (by decide) ?_
      exact W.zret (v := 1) hx hb hr rfl (fun t ht hW => ⟨⟨1, (), rfl, Or.inl ⟨rfl, by omega⟩, trivial⟩, hS.F ht⟩) hS.2.2 dX3_mayBeIn_53

