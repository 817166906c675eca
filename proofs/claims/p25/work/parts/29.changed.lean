set_option maxRecDepth 100000 in
set_option maxHeartbeats 4000000 in
theorem t_X2_differInInts_00 (l : Launch) (dC : Nat → ClassId) (dI : Nat → Nat → Nat) (TT : Nat × Nat × Nat) (sz : Nat) (kT kI kJ : ClassId) (K : Nat → Nat) (L : List Nat) (f : Nat → va_E) (hPI : PI kT kI kJ K L f)  : Met l yX2_differInInts wsX2_differInInts ({ frames := 0, cells := 0, slots := 0, locals := 0 } : Room) (va_Pc [.null, .null] (pr dC dI (va_pl L f) [] [(kT, .object RX1), (kI, .int), (kJ, .long)] sz TT)) (va_Qi (fun (r : Int32) (u : Unit) => r01 r) (fun _ _ => True) (va_A [] sz)) 0 0 (va_A [] sz) := by
  refine Met.ofW (cc := cX2_differInInts) (maxL := 3) (ret := (some .boolean)) (by decide) rfl ?_
  intro p e s m args below meth c s₁ B hml hv
  obtain ⟨rfl, hsz, hP, hK, hD0, hst⟩ := hv
  have hx := B.exec
  have hb := B.bytes
  have hr := B.returns
  have hts := atoms_spec (ws := wsX2_differInInts) B.pre
  have hown : s.vm.findClass RX2 = some m.cls := findClass_of_methodNamed B.named
  have hlocks := B.notSynchronized
  subst hsz
  have hD := hD0.self (sz := s.heap.size)
  generalize hAe : va_A [] s.heap.size = A at hD hst ⊢
  have hA : ∀ q : Nat, s.heap.size ≤ q → A q := fun q h => by rw [← hAe]; exact Or.inr h
  have hS : va_S A s.heap s.heap [] := va_S.rf
  have hl := lv_entry ([.null, .null]) (n := 3) (Nat.le_of_ble_eq_true rfl)
  rw [lg_entry_eq]
  generalize (lg_sl ([.null, .null]) ++ List.replicate (3 - (lg_sl ([.null, .null])).length) Slot.unset).toArray = ls at hl ⊢
  have hl : lv_has ls 3 [(0, .null), (1, .null)] := hl
  have k0_ : Int32.toInt 0 = 0 := by decide
  refine lv_aload_nN hx hb dX2_differInInts_0 rfl (lv_at hl 0 rfl) ?_
  refine lv_ifnullN (tgt := 8) hx hb dX2_differInInts_1 (by decide) ?_
  refine lv_aload_nN hx hb dX2_differInInts_8 rfl (lv_at hl 0 rfl) ?_
  refine lv_ifnonnullN hx hb dX2_differInInts_9 ?_
  refine lv_aload_nN hx hb dX2_differInInts_12 rfl (lv_at hl 1 rfl) ?_
  refine lv_ifnullN (tgt := 20) hx hb dX2_differInInts_13 (by decide) ?_
  refine lv_iconst (v := 0) hx hb dX2_differInInts_20 (by decide) ?_
  exact W.zret (v := 0) hx hb hr rfl (fun t ht hW => ⟨⟨0, (), rfl, Or.inr rfl, trivial⟩, hS.F ht⟩) hS.2.2 dX2_differInInts_21
set_option maxRecDepth 100000 in
set_option maxHeartbeats 4000000 in
theorem t_X2_differInInts_01 (l : Launch) (dC : Nat → ClassId) (dI : Nat → Nat → Nat) (TT : Nat × Nat × Nat) (sz : Nat) (kT kI kJ : ClassId) (K : Nat → Nat) (L : List Nat) (f : Nat → va_E) (hPI : PI kT kI kJ K L f) (y0 : Nat) (hy0 : isr K L 4 y0) : Met l yX2_differInInts wsX2_differInInts ({ frames := 0, cells := 0, slots := 0, locals := 0 } : Room) (va_Pc [.null, .ref y0] (pr dC dI (va_pl L f) [] [(kT, .object RX1), (kI, .int), (kJ, .long)] sz TT)) (va_Qi (fun (r : Int32) (u : Unit) => r01 r) (fun _ _ => True) (va_A [] sz)) 0 0 (va_A [] sz) := by
  refine Met.ofW (cc := cX2_differInInts) (maxL := 3) (ret := (some .boolean)) (by decide) rfl ?_
  intro p e s m args below meth c s₁ B hml hv
  obtain ⟨rfl, hsz, hP, hK, hD0, hst⟩ := hv
  have hx := B.exec
  have hb := B.bytes
  have hr := B.returns
  have hts := atoms_spec (ws := wsX2_differInInts) B.pre
  have hown : s.vm.findClass RX2 = some m.cls := findClass_of_methodNamed B.named
  have hlocks := B.notSynchronized
  subst hsz
  have hD := hD0.self (sz := s.heap.size)
  generalize hAe : va_A [] s.heap.size = A at hD hst ⊢
  have hA : ∀ q : Nat, s.heap.size ≤ q → A q := fun q h => by rw [← hAe]; exact Or.inr h
  have hS : va_S A s.heap s.heap [] := va_S.rf
  have hl := lv_entry ([.null, .ref y0]) (n := 3) (Nat.le_of_ble_eq_true rfl)
  rw [lg_entry_eq]
  generalize (lg_sl ([.null, .ref y0]) ++ List.replicate (3 - (lg_sl ([.null, .ref y0])).length) Slot.unset).toArray = ls at hl ⊢
  have hl : lv_has ls 3 [(0, .null), (1, .ref y0)] := hl
  have k1_ : Int32.toInt 1 = 1 := by decide
  refine lv_aload_nN hx hb dX2_differInInts_0 rfl (lv_at hl 0 rfl) ?_
  refine lv_ifnullN (tgt := 8) hx hb dX2_differInInts_1 (by decide) ?_
  refine lv_aload_nN hx hb dX2_differInInts_8 rfl (lv_at hl 0 rfl) ?_
  refine lv_ifnonnullN hx hb dX2_differInInts_9 ?_
  refine lv_aload_n hx hb dX2_differInInts_12 rfl (lv_at hl 1 rfl) ?_
  refine lv_ifnull hx hb dX2_differInInts_13 ?_
  refine lv_iconst (v := 1) hx hb dX2_differInInts_16 (by decide) ?_
  refine lv_goto (tgt := 21) hx hb dX2_differInInts_17 (by decide) ?_
  exact W.zret (v := 1) hx hb hr rfl (fun t ht hW => ⟨⟨1, (), rfl, Or.inl rfl, trivial⟩, hS.F ht⟩) hS.2.2 dX2_differInInts_21
set_option maxRecDepth 100000 in
set_option maxHeartbeats 4000000 in
theorem t_X2_differInInts_10 (l : Launch) (dC : Nat → ClassId) (dI : Nat → Nat → Nat) (TT : Nat × Nat × Nat) (sz : Nat) (kT kI kJ : ClassId) (K : Nat → Nat) (L : List Nat) (f : Nat → va_E) (hPI : PI kT kI kJ K L f) (x0 : Nat) (hx0 : isr K L 4 x0) : Met l yX2_differInInts wsX2_differInInts ({ frames := 0, cells := 0, slots := 0, locals := 0 } : Room) (va_Pc [.ref x0, .null] (pr dC dI (va_pl L f) [] [(kT, .object RX1), (kI, .int), (kJ, .long)] sz TT)) (va_Qi (fun (r : Int32) (u : Unit) => r01 r) (fun _ _ => True) (va_A [] sz)) 0 0 (va_A [] sz) := by
  refine Met.ofW (cc := cX2_differInInts) (maxL := 3) (ret := (some .boolean)) (by decide) rfl ?_
  intro p e s m args below meth c s₁ B hml hv
  obtain ⟨rfl, hsz, hP, hK, hD0, hst⟩ := hv
  have hx := B.exec
  have hb := B.bytes
  have hr := B.returns
  have hts := atoms_spec (ws := wsX2_differInInts) B.pre
  have hown : s.vm.findClass RX2 = some m.cls := findClass_of_methodNamed B.named
  have hlocks := B.notSynchronized
  subst hsz
  have hD := hD0.self (sz := s.heap.size)
  generalize hAe : va_A [] s.heap.size = A at hD hst ⊢
  have hA : ∀ q : Nat, s.heap.size ≤ q → A q := fun q h => by rw [← hAe]; exact Or.inr h
  have hS : va_S A s.heap s.heap [] := va_S.rf
  have hl := lv_entry ([.ref x0, .null]) (n := 3) (Nat.le_of_ble_eq_true rfl)
  rw [lg_entry_eq]
  generalize (lg_sl ([.ref x0, .null]) ++ List.replicate (3 - (lg_sl ([.ref x0, .null])).length) Slot.unset).toArray = ls at hl ⊢
  have hl : lv_has ls 3 [(0, .ref x0), (1, .null)] := hl
  have k1_ : Int32.toInt 1 = 1 := by decide
  refine lv_aload_n hx hb dX2_differInInts_0 rfl (lv_at hl 0 rfl) ?_
  refine lv_ifnull hx hb dX2_differInInts_1 ?_
  refine lv_aload_nN hx hb dX2_differInInts_4 rfl (lv_at hl 1 rfl) ?_
  refine lv_ifnonnullN hx hb dX2_differInInts_5 ?_
  refine lv_aload_n hx hb dX2_differInInts_8 rfl (lv_at hl 0 rfl) ?_
  refine lv_ifnonnull (tgt := 16) hx hb dX2_differInInts_9 (by decide) ?_
  refine lv_iconst (v := 1) hx hb dX2_differInInts_16 (by decide) ?_
  refine lv_goto (tgt := 21) hx hb dX2_differInInts_17 (by decide) ?_
  exact W.zret (v := 1) hx hb hr rfl (fun t ht hW => ⟨⟨1, (), rfl, Or.inl rfl, trivial⟩, hS.F ht⟩) hS.2.2 dX2_differInInts_21
set_option maxRecDepth 100000 in
set_option maxHeartbeats 4000000 in
theorem t_X2_differInInts_11 (l : Launch) (dC : Nat → ClassId) (dI : Nat → Nat → Nat) (TT : Nat × Nat × Nat) (sz : Nat) (kT kI kJ : ClassId) (K : Nat → Nat) (L : List Nat) (f : Nat → va_E) (hPI : PI kT kI kJ K L f) (x0 : Nat) (hx0 : isr K L 4 x0) (y0 : Nat) (hy0 : isr K L 4 y0) : Met l yX2_differInInts wsX2_differInInts ({ frames := 0, cells := 0, slots := 0, locals := 0 } : Room) (va_Pc [.ref x0, .ref y0] (pr dC dI (va_pl L f) [] [(kT, .object RX1), (kI, .int), (kJ, .long)] sz TT)) (va_Qi (fun (r : Int32) (u : Unit) => r01 r) (fun _ _ => True) (va_A [] sz)) 0 0 (va_A [] sz) := by
  refine Met.ofW (cc := cX2_differInInts) (maxL := 3) (ret := (some .boolean)) (by decide) rfl ?_
  intro p e s m args below meth c s₁ B hml hv
  obtain ⟨rfl, hsz, hP, hK, hD0, hst⟩ := hv
  have hx := B.exec
  have hb := B.bytes
  have hr := B.returns
  have hts := atoms_spec (ws := wsX2_differInInts) B.pre
  have hown : s.vm.findClass RX2 = some m.cls := findClass_of_methodNamed B.named
  have hlocks := B.notSynchronized
  subst hsz
  have hD := hD0.self (sz := s.heap.size)
  generalize hAe : va_A [] s.heap.size = A at hD hst ⊢
  have hA : ∀ q : Nat, s.heap.size ≤ q → A q := fun q h => by rw [← hAe]; exact Or.inr h
  have hS : va_S A s.heap s.heap [] := va_S.rf
  have hl := lv_entry ([.ref x0, .ref y0]) (n := 3) (Nat.le_of_ble_eq_true rfl)
  rw [lg_entry_eq]
  generalize (lg_sl ([.ref x0, .ref y0]) ++ List.replicate (3 - (lg_sl ([.ref x0, .ref y0])).length) Slot.unset).toArray = ls at hl ⊢
  have hl : lv_has ls 3 [(0, .ref x0), (1, .ref y0)] := hl
  have k0_ : Int32.toInt 0 = 0 := by decide
  have k1_ : Int32.toInt 1 = 1 := by decide
  refine W_nameQ (fun Q0 eQ => ?_)
  refine lv_aload_n hx hb dX2_differInInts_0 rfl (lv_at hl 0 rfl) ?_
  refine lv_ifnull hx hb dX2_differInInts_1 ?_
  refine lv_aload_n hx hb dX2_differInInts_4 rfl (lv_at hl 1 rfl) ?_
  refine lv_ifnonnull (tgt := 22) hx hb dX2_differInInts_5 (by decide) ?_
  refine lv_aload_n hx hb dX2_differInInts_22 rfl (lv_at hl 0 rfl) ?_
  obtain ⟨n_1, g_1, e_1, fn_1⟩ := hPI.a4 hx0
  have kn_1 := nI_len fn_1
  obtain ⟨k_1, hk_1⟩ := va_plg hx0.1 e_1
  refine va_alen hx hb hK hP k_1 1 hk_1 rfl (v := Int32.ofNat n_1) rfl dX2_differInInts_23 ?_
  refine lv_aload_n hx hb dX2_differInInts_24 rfl (lv_at hl 1 rfl) ?_
  obtain ⟨n_2, g_2, e_2, fn_2⟩ := hPI.a4 hy0
  have kn_2 := nI_len fn_2
  obtain ⟨k_2, hk_2⟩ := va_plg hy0.1 e_2
  refine va_alen hx hb hK hP k_2 1 hk_2 rfl (v := Int32.ofNat n_2) rfl dX2_differInInts_25 ?_
  refine lv_icmp_eq (tgt := 31) hx hb dX2_differInInts_26 (by decide) (fun c_3 => ?_) (fun c_3 => ?_)
  · have c_3 := congrArg Int32.toInt c_3
    refine lv_iconst (v := 0) hx hb dX2_differInInts_31 (by decide) ?_
    refine lv_istore_n (lv' := [(2, .int 0), (0, .ref x0), (1, .ref y0)]) hx hb dX2_differInInts_32 rfl hl (by decide) rfl (fun ls hl => ?_)
    have loop_33 : ∀ (n : Nat) (i2 : Int32)   (H : Heap) (locs : List Loc) (ls : Array Slot), (0 ≤ i2.toInt ∧ i2.toInt ≤ 20) → (20 - i2.toInt).toNat < n → va_P (dC, dI) vwCl (va_pl L f) H → va_S A s.heap H locs → lv_has ls 3 [(2, .int i2), (0, .ref x0), (1, .ref y0)] → W p l e (headSpec wsX2_differInInts ({ frames := 0, cells := 0, slots := 0, locals := 0 } : Room)).room s m (([.ref x0, .ref y0] : List Value).toArray) below meth c H locs 0 0 Q0 (F0 m 33 ls []) := by
      intro n
      induction n with
      | zero => intro i2 H locs ls  _ h9; exact absurd h9 (Nat.not_lt_zero _)
      | succ n ih_33 =>
        intro i2 H locs ls  hI hM hP hS hl
        refine lv_iload_n hx hb dX2_differInInts_33 rfl (lv_at hl 0 rfl) ?_
        refine lv_aload_n hx hb dX2_differInInts_34 rfl (lv_at hl 1 rfl) ?_
        obtain ⟨k_4, hk_4⟩ := va_plg hx0.1 e_1
        refine va_alen hx hb hK hP k_4 1 hk_4 rfl (v := Int32.ofNat n_1) rfl dX2_differInInts_35 ?_
        refine lv_icmp_ge (tgt := 56) hx hb dX2_differInInts_36 (by decide) (fun c_5 => ?_) (fun c_5 => ?_)
        · have c_5 := Int32.le_iff_toInt_le.mp c_5
          refine lv_iconst (v := 0) hx hb dX2_differInInts_56 (by decide) ?_
          subst eQ
          exact W.zret (v := 0) hx hb hr rfl (fun t ht hW => ⟨⟨0, (), rfl, Or.inr rfl, trivial⟩, hS.F ht⟩) hS.2.2 dX2_differInInts_57
        · have c_5 := mt Int32.le_iff_toInt_le.mpr c_5
          refine lv_aload_n hx hb dX2_differInInts_39 rfl (lv_at hl 1 rfl) ?_
          refine lv_iload_n hx hb dX2_differInInts_40 rfl (lv_at hl 0 rfl) ?_
          obtain ⟨k_6, hk_6⟩ := va_plg hx0.1 e_1
          have h_6 : vp_in i2 n_1 := (vp_in_iff.mpr (by constructor <;> omega))
          refine va_iald hx hb hK hP k_6 1 hk_6 rfl h_6 dX2_differInInts_41 ?_
          refine lv_topi (fun z_6 ez_6 => ?_)
          refine lv_aload_n hx hb dX2_differInInts_42 rfl (lv_at hl 2 rfl) ?_
          refine lv_iload_n hx hb dX2_differInInts_43 rfl (lv_at hl 0 rfl) ?_
          obtain ⟨k_7, hk_7⟩ := va_plg hy0.1 e_2
          have h_7 : vp_in i2 n_2 := (vp_in_iff.mpr (by constructor <;> omega))
          refine va_iald hx hb hK hP k_7 1 hk_7 rfl h_7 dX2_differInInts_44 ?_
          refine lv_topi (fun z_7 ez_7 => ?_)
          refine lv_icmp_eq (tgt := 50) hx hb dX2_differInInts_45 (by decide) (fun c_8 => ?_) (fun c_8 => ?_)
          · have c_8 := congrArg Int32.toInt c_8
            obtain ⟨i_9, ei_9⟩ : ∃ y : Int32, y = i2 + 1 := ⟨_, rfl⟩
            refine lv_iinc (v := i_9) (lv' := [(2, .int i_9), (0, .ref x0), (1, .ref y0)]) hx hb dX2_differInInts_50 hl (k := 0) rfl (by rw [ei_9]; rfl) (by decide) rfl (fun ls hl => ?_)
            have ki_9 := inc_toInt ei_9 (by omega)
            refine lv_goto (tgt := 33) hx hb dX2_differInInts_53 (by decide) ?_
            exact ih_33 i_9 _ _ _  (by omega) (by omega) hP hS (lv_sub hl [0, 1, 2] rfl)
          · have c_8 := mt Int32.toInt_inj.mp c_8
            refine lv_iconst (v := 1) hx hb dX2_differInInts_48 (by decide) ?_
            subst eQ
            exact W.zret (v := 1) hx hb hr rfl (fun t ht hW => ⟨⟨1, (), rfl, Or.inl rfl, trivial⟩, hS.F ht⟩) hS.2.2 dX2_differInInts_49
    exact loop_33 21 0 _ _ _  (by omega) (by omega) hP hS hl
  · have c_3 := mt Int32.toInt_inj.mp c_3
    refine lv_iconst (v := 1) hx hb dX2_differInInts_29 (by decide) ?_
    subst eQ
    exact W.zret (v := 1) hx hb hr rfl (fun t ht hW => ⟨⟨1, (), rfl, Or.inl rfl, trivial⟩, hS.F ht⟩) hS.2.2 dX2_differInInts_30
set_option maxRecDepth 20000 in
theorem in_t_X2_differ_X1 : ∀ w ∈ u_ws RX1 TX1 6, w ∈ wsX2_differ := by decide +kernel
set_option maxRecDepth 100000 in
set_option maxHeartbeats 4000000 in
theorem t_X2_differ (l : Launch) (dC : Nat → ClassId) (dI : Nat → Nat → Nat) (TT : Nat × Nat × Nat) (sz : Nat) (kT kI kJ : ClassId) (K : Nat → Nat) (L : List Nat) (f : Nat → va_E) (hPI : PI kT kI kJ K L f) (x0 : Nat) (hx0 : isr K L 1 x0) (y0 : Nat) (hy0 : isr K L 1 y0) (f0 : Int32) (hf0 : 0 ≤ f0.toInt ∧ f0.toInt < 17) : Met l yX2_differ wsX2_differ ({ frames := 1, cells := 0, slots := 0, locals := 22 } : Room) (va_Pc [.ref x0, .ref y0, .int f0] (pr dC dI (va_pl L f) [] [(kT, .object RX1), (kI, .int), (kJ, .long)] sz TT)) (va_Qi (fun (r : Int32) (u : Unit) => r01 r) (fun _ _ => True) (va_A [] sz)) 0 0 (va_A [] sz) := by
  refine Met.ofW (cc := cX2_differ) (maxL := 3) (ret := (some .boolean)) (by decide) rfl ?_
  intro p e s m args below meth c s₁ B hml hv
  obtain ⟨rfl, hsz, hP, hK, hD0, hst⟩ := hv
  have hx := B.exec
  have hb := B.bytes
  have hr := B.returns
  have hts := atoms_spec (ws := wsX2_differ) B.pre
  have hown : s.vm.findClass RX2 = some m.cls := findClass_of_methodNamed B.named
  have hlocks := B.notSynchronized
  have iX1_ := in_t_X2_differ_X1
  subst hsz
  have hD := hD0.self (sz := s.heap.size)
  generalize hAe : va_A [] s.heap.size = A at hD hst ⊢
  have hA : ∀ q : Nat, s.heap.size ≤ q → A q := fun q h => by rw [← hAe]; exact Or.inr h
  have hS : va_S A s.heap s.heap [] := va_S.rf
  have hl := lv_entry ([.ref x0, .ref y0, .int f0]) (n := 3) (Nat.le_of_ble_eq_true rfl)
  rw [lg_entry_eq]
  generalize (lg_sl ([.ref x0, .ref y0, .int f0]) ++ List.replicate (3 - (lg_sl ([.ref x0, .ref y0, .int f0])).length) Slot.unset).toArray = ls at hl ⊢
  have hl : lv_has ls 3 [(0, .ref x0), (1, .ref y0), (2, .int f0)] := hl
  have k0_ : Int32.toInt 0 = 0 := by decide
  have k1_ : Int32.toInt 1 = 1 := by decide
  have k8_ : Int32.toInt 8 = 8 := by decide
  have k9_ : Int32.toInt 9 = 9 := by decide
  refine va_gets (v := .ref TT.1) hx hb hst.zF hS hown (hts (.fieldLink RX2 161 "FieldLeaves" "FORM" "[I") (by decide +kernel)) (fun _ h9 => h9) dX2_differ_0 ?_
  refine lv_iload_n hx hb dX2_differ_3 rfl (lv_at hl 2 rfl) ?_
  have h_1 : vp_in f0 17 := (vp_in_iff.mpr (by constructor <;> omega))
  refine va_ti hx hb hst.tF hS h_1 (v := .int (FORMt (Int32.toNatClampNeg f0))) rfl dX2_differ_4 ?_
  have fh_1 := FORMt_is h_1
  refine lv_bipush (v := 8) hx hb dX2_differ_5 (by decide) ?_
  refine lv_icmp_ne (tgt := 29) hx hb dX2_differ_7 (by decide) (fun c_2 => ?_) (fun c_2 => ?_)
  · have c_2 := mt Int32.toInt_inj.mp c_2
    refine va_gets (v := .ref TT.1) hx hb hst.zF hS hown (hts (.fieldLink RX2 161 "FieldLeaves" "FORM" "[I") (by decide +kernel)) (fun _ h9 => h9) dX2_differ_29 ?_
    refine lv_iload_n hx hb dX2_differ_32 rfl (lv_at hl 2 rfl) ?_
    have h_3 : vp_in f0 17 := (vp_in_iff.mpr (by constructor <;> omega))
    refine va_ti hx hb hst.tF hS h_3 (v := .int (FORMt (Int32.toNatClampNeg f0))) rfl dX2_differ_33 ?_
    have fh_3 := FORMt_is h_3
    refine lv_bipush (v := 9) hx hb dX2_differ_34 (by decide) ?_
    refine lv_icmp_ne (tgt := 51) hx hb dX2_differ_36 (by decide) (fun c_4 => ?_) (fun c_4 => ?_)
    · have c_4 := mt Int32.toInt_inj.mp c_4
      refine lv_aload_n hx hb dX2_differ_51 rfl (lv_at hl 0 rfl) ?_
      obtain ⟨cn_5, v_5, b_5, m_5, st_5, i_5, e_5, fv_5, fb_5, fm_5, fst_5, fi_5⟩ := hPI.a1 hx0
      obtain ⟨k_5, hk_5⟩ := va_plg hx0.1 e_5
      refine va_get (D := (dC, dI)) (ci := 1) (v := .ref v_5) (C := RX1) (T := TX1) (N := 6) hx hb hts iX1_ hown hK hP k_5 hk_5 rfl 1 (by decide) (hts (.fieldLink RX2 65 "FieldLeaves$Thing" "values" "[J") (by decide +kernel)) (fun _ h9 => h9) rfl dX2_differ_52 ?_
      refine lv_iload_n hx hb dX2_differ_55 rfl (lv_at hl 2 rfl) ?_
      obtain ⟨g_6, e_6⟩ := hPI.a3 fv_5
      obtain ⟨k_6, hk_6⟩ := va_plg fv_5.1 e_6
      have h_6 : vp_in f0 17 := (vp_in_iff.mpr (by constructor <;> omega))
      refine va_lald hx hb hK hP k_6 2 hk_6 rfl h_6 dX2_differ_56 ?_
      refine lv_topl (fun z_6 ez_6 => ?_)
      refine lv_aload_n hx hb dX2_differ_57 rfl (lv_at hl 1 rfl) ?_
      obtain ⟨cn_7, v_7, b_7, m_7, st_7, i_7, e_7, fv_7, fb_7, fm_7, fst_7, fi_7⟩ := hPI.a1 hy0
      obtain ⟨k_7, hk_7⟩ := va_plg hy0.1 e_7
      refine va_get (D := (dC, dI)) (ci := 1) (v := .ref v_7) (C := RX1) (T := TX1) (N := 6) hx hb hts iX1_ hown hK hP k_7 hk_7 rfl 1 (by decide) (hts (.fieldLink RX2 65 "FieldLeaves$Thing" "values" "[J") (by decide +kernel)) (fun _ h9 => h9) rfl dX2_differ_58 ?_
      refine lv_iload_n hx hb dX2_differ_61 rfl (lv_at hl 2 rfl) ?_
      obtain ⟨g_8, e_8⟩ := hPI.a3 fv_7
      obtain ⟨k_8, hk_8⟩ := va_plg fv_7.1 e_8
      have h_8 : vp_in f0 17 := (vp_in_iff.mpr (by constructor <;> omega))
      refine va_lald hx hb hK hP k_8 2 hk_8 rfl h_8 dX2_differ_62 ?_
      refine lv_topl (fun z_8 ez_8 => ?_)
      refine W.lcmp hx hb dX2_differ_63 ?_
      refine lv_if_eq (tgt := 71) hx hb dX2_differ_64 (by decide) (fun c_9 => ?_) (fun c_9 => ?_)
      · have c_9 := congrArg Int64.toInt ((lg_cmp_eq z_6 z_8).mp c_9)
        refine lv_iconst (v := 0) hx hb dX2_differ_71 (by decide) ?_
        exact W.zret (v := 0) hx hb hr rfl (fun t ht hW => ⟨⟨0, (), rfl, Or.inr rfl, trivial⟩, hS.F ht⟩) hS.2.2 dX2_differ_72
      · have c_9 := mt (fun h9 => (lg_cmp_eq z_6 z_8).mpr (Int64.toInt_inj.mp h9)) c_9
        refine lv_iconst (v := 1) hx hb dX2_differ_67 (by decide) ?_
        refine lv_goto (tgt := 72) hx hb dX2_differ_68 (by decide) ?_
        exact W.zret (v := 1) hx hb hr rfl (fun t ht hW => ⟨⟨1, (), rfl, Or.inl rfl, trivial⟩, hS.F ht⟩) hS.2.2 dX2_differ_72
    · have c_4 := congrArg Int32.toInt c_4
      refine lv_aload_n hx hb dX2_differ_39 rfl (lv_at hl 0 rfl) ?_
      obtain ⟨cn_10, v_10, b_10, m_10, st_10, i_10, e_10, fv_10, fb_10, fm_10, fst_10, fi_10⟩ := hPI.a1 hx0
      obtain ⟨k_10, hk_10⟩ := va_plg hx0.1 e_10
      refine va_get (D := (dC, dI)) (ci := 1) (v := va_rf i_10) (C := RX1) (T := TX1) (N := 6) hx hb hts iX1_ hown hK hP k_10 hk_10 rfl 5 (by decide) (hts (.fieldLink RX2 91 "FieldLeaves$Thing" "ints" "[I") (by decide +kernel)) (fun _ h9 => h9) rfl dX2_differ_40 ?_
      rcases i_10 with _ | y_11
      · refine W.eq (g2 := F0 m 43 ls [.null]) rfl ?_
        refine lv_aload_n hx hb dX2_differ_43 rfl (lv_at hl 1 rfl) ?_
        obtain ⟨cn_12, v_12, b_12, m_12, st_12, i_12, e_12, fv_12, fb_12, fm_12, fst_12, fi_12⟩ := hPI.a1 hy0
        obtain ⟨k_12, hk_12⟩ := va_plg hy0.1 e_12
        refine va_get (D := (dC, dI)) (ci := 1) (v := va_rf i_12) (C := RX1) (T := TX1) (N := 6) hx hb hts iX1_ hown hK hP k_12 hk_12 rfl 5 (by decide) (hts (.fieldLink RX2 91 "FieldLeaves$Thing" "ints" "[I") (by decide +kernel)) (fun _ h9 => h9) rfl dX2_differ_44 ?_
        rcases i_12 with _ | y_13
        · refine W.eq (g2 := F0 m 47 ls [.null, .null]) rfl ?_
          refine va_calli (va_runS (As := [.null, .null]) (rest := []) ⟨hx, hb, hml, hown, hts⟩ (t_X2_differInInts_00 l dC dI TT s.heap.size kT kI kJ K L f hPI ) (va_cwS 2 hts gX2_differ_X2_differInInts rfl rfl rfl (by decide +kernel) ⟨Nat.le_of_ble_eq_true rfl, Nat.le_of_ble_eq_true rfl⟩) (pr_S (ws := va_pl L f) (wA := []) (tys := [(kT, .object RX1), (kI, .int), (kJ, .long)]) hP hK vd_nil hst hS (ro_free hS hA)) rfl rfl hl.1 rfl (lv_room (Nat.le_of_ble_eq_true rfl)) dX2_differ_47 ⟨Nat.le_of_ble_eq_true rfl, Nat.le_of_ble_eq_true rfl⟩) hS (fun q _ h => (ro_free hS hA) q h) (ro_free hS hA) (fun r_14 u t H1 locs ht hvm hw hB hz1 hk1 hS => ?_)
          have hP := ro_keep hP hk1
          generalize H1 = H at hP hS ⊢
          rcases hw with rfl | rfl
          · exact W.zret (v := 1) hx hb hr rfl (fun t ht hW => ⟨⟨1, (), rfl, Or.inl rfl, trivial⟩, hS.F ht⟩) hS.2.2 dX2_differ_50
          · exact W.zret (v := 0) hx hb hr rfl (fun t ht hW => ⟨⟨0, (), rfl, Or.inr rfl, trivial⟩, hS.F ht⟩) hS.2.2 dX2_differ_50
        · have fy_13 := fi_12 y_13 rfl
          refine W.eq (g2 := F0 m 47 ls [.ref y_13, .null]) rfl ?_
          refine va_calli (va_runS (As := [.null, .ref y_13]) (rest := []) ⟨hx, hb, hml, hown, hts⟩ (t_X2_differInInts_01 l dC dI TT s.heap.size kT kI kJ K L f hPI y_13 fy_13) (va_cwS 2 hts gX2_differ_X2_differInInts rfl rfl rfl (by decide +kernel) ⟨Nat.le_of_ble_eq_true rfl, Nat.le_of_ble_eq_true rfl⟩) (pr_S (ws := va_pl L f) (wA := []) (tys := [(kT, .object RX1), (kI, .int), (kJ, .long)]) hP hK vd_nil hst hS (ro_free hS hA)) rfl rfl hl.1 rfl (lv_room (Nat.le_of_ble_eq_true rfl)) dX2_differ_47 ⟨Nat.le_of_ble_eq_true rfl, Nat.le_of_ble_eq_true rfl⟩) hS (fun q _ h => (ro_free hS hA) q h) (ro_free hS hA) (fun r_15 u t H1 locs ht hvm hw hB hz1 hk1 hS => ?_)
          have hP := ro_keep hP hk1
          generalize H1 = H at hP hS ⊢
          rcases hw with rfl | rfl
          · exact W.zret (v := 1) hx hb hr rfl (fun t ht hW => ⟨⟨1, (), rfl, Or.inl rfl, trivial⟩, hS.F ht⟩) hS.2.2 dX2_differ_50
          · exact W.zret (v := 0) hx hb hr rfl (fun t ht hW => ⟨⟨0, (), rfl, Or.inr rfl, trivial⟩, hS.F ht⟩) hS.2.2 dX2_differ_50
      · have fy_11 := fi_10 y_11 rfl
        refine W.eq (g2 := F0 m 43 ls [.ref y_11]) rfl ?_
        refine lv_aload_n hx hb dX2_differ_43 rfl (lv_at hl 1 rfl) ?_
        obtain ⟨cn_16, v_16, b_16, m_16, st_16, i_16, e_16, fv_16, fb_16, fm_16, fst_16, fi_16⟩ := hPI.a1 hy0
        obtain ⟨k_16, hk_16⟩ := va_plg hy0.1 e_16
        refine va_get (D := (dC, dI)) (ci := 1) (v := va_rf i_16) (C := RX1) (T := TX1) (N := 6) hx hb hts iX1_ hown hK hP k_16 hk_16 rfl 5 (by decide) (hts (.fieldLink RX2 91 "FieldLeaves$Thing" "ints" "[I") (by decide +kernel)) (fun _ h9 => h9) rfl dX2_differ_44 ?_
        rcases i_16 with _ | y_17
        · refine W.eq (g2 := F0 m 47 ls [.null, .ref y_11]) rfl ?_
          refine va_calli (va_runS (As := [.ref y_11, .null]) (rest := []) ⟨hx, hb, hml, hown, hts⟩ (t_X2_differInInts_10 l dC dI TT s.heap.size kT kI kJ K L f hPI y_11 fy_11) (va_cwS 2 hts gX2_differ_X2_differInInts rfl rfl rfl (by decide +kernel) ⟨Nat.le_of_ble_eq_true rfl, Nat.le_of_ble_eq_true rfl⟩) (pr_S (ws := va_pl L f) (wA := []) (tys := [(kT, .object RX1), (kI, .int), (kJ, .long)]) hP hK vd_nil hst hS (ro_free hS hA)) rfl rfl hl.1 rfl (lv_room (Nat.le_of_ble_eq_true rfl)) dX2_differ_47 ⟨Nat.le_of_ble_eq_true rfl, Nat.le_of_ble_eq_true rfl⟩) hS (fun q _ h => (ro_free hS hA) q h) (ro_free hS hA) (fun r_18 u t H1 locs ht hvm hw hB hz1 hk1 hS => ?_)
          have hP := ro_keep hP hk1
          generalize H1 = H at hP hS ⊢
          rcases hw with rfl | rfl
          · exact W.zret (v := 1) hx hb hr rfl (fun t ht hW => ⟨⟨1, (), rfl, Or.inl rfl, trivial⟩, hS.F ht⟩) hS.2.2 dX2_differ_50
          · exact W.zret (v := 0) hx hb hr rfl (fun t ht hW => ⟨⟨0, (), rfl, Or.inr rfl, trivial⟩, hS.F ht⟩) hS.2.2 dX2_differ_50
        · have fy_17 := fi_16 y_17 rfl
          refine W.eq (g2 := F0 m 47 ls [.ref y_17, .ref y_11]) rfl ?_
          refine va_calli (va_runS (As := [.ref y_11, .ref y_17]) (rest := []) ⟨hx, hb, hml, hown, hts⟩ (t_X2_differInInts_11 l dC dI TT s.heap.size kT kI kJ K L f hPI y_11 fy_11 y_17 fy_17) (va_cwS 2 hts gX2_differ_X2_differInInts rfl rfl rfl (by decide +kernel) ⟨Nat.le_of_ble_eq_true rfl, Nat.le_of_ble_eq_true rfl⟩) (pr_S (ws := va_pl L f) (wA := []) (tys := [(kT, .object RX1), (kI, .int), (kJ, .long)]) hP hK vd_nil hst hS (ro_free hS hA)) rfl rfl hl.1 rfl (lv_room (Nat.le_of_ble_eq_true rfl)) dX2_differ_47 ⟨Nat.le_of_ble_eq_true rfl, Nat.le_of_ble_eq_true rfl⟩) hS (fun q _ h => (ro_free hS hA) q h) (ro_free hS hA) (fun r_19 u t H1 locs ht hvm hw hB hz1 hk1 hS => ?_)
          have hP := ro_keep hP hk1
          generalize H1 = H at hP hS ⊢
          rcases hw with rfl | rfl
          · exact W.zret (v := 1) hx hb hr rfl (fun t ht hW => ⟨⟨1, (), rfl, Or.inl rfl, trivial⟩, hS.F ht⟩) hS.2.2 dX2_differ_50
          · exact W.zret (v := 0) hx hb hr rfl (fun t ht hW => ⟨⟨0, (), rfl, Or.inr rfl, trivial⟩, hS.F ht⟩) hS.2.2 dX2_differ_50
  · have c_2 := congrArg Int32.toInt c_2
    refine lv_aload_n hx hb dX2_differ_10 rfl (lv_at hl 0 rfl) ?_
    refine lv_iload_n hx hb dX2_differ_11 rfl (lv_at hl 2 rfl) ?_
    obtain ⟨cn_20, v_20, b_20, m_20, st_20, i_20, e_20, fv_20, fb_20, fm_20, fst_20, fi_20⟩ := hPI.a1 hx0
    obtain ⟨k_20, hk_20⟩ := va_plg hx0.1 e_20
    refine va_callq (va_runV (b := x0) (As := [.int f0]) (rest := []) ⟨hx, hb, hml, hown, hts⟩ (t_X1_held l dC dI TT s.heap.size kT kI kJ K L f hPI x0 hx0 f0) (cwV 1 hts gX2_differ_X1_held rfl rfl rfl (by decide +kernel) ⟨Nat.le_of_ble_eq_true rfl, Nat.le_of_ble_eq_true rfl⟩) ⟨pr_blind, va_recv hK hP (ci := 1) rfl hk_20, (pr_S (ws := va_pl L f) (wA := []) (tys := [(kT, .object RX1), (kI, .int), (kJ, .long)]) hP hK vd_nil hst hS (ro_free hS hA)).2⟩ rfl rfl hl.1 rfl (lv_room (Nat.le_of_ble_eq_true rfl)) dX2_differ_12 ⟨Nat.le_of_ble_eq_true rfl, Nat.le_of_ble_eq_true rfl⟩) hS (fun q _ h => (ro_free hS hA) q h) (ro_free hS hA) (fun r_21 u t H1 locs ht hvm hw hB hz1 hk1 hS => ?_)
    have hP := ro_keep hP hk1
    generalize H1 = H at hP hS ⊢
    rcases r_21 with _ | y_22
    · refine W.eq (g2 := F0 m 15 ls [.null]) rfl ?_
      refine lv_aload_n hx hb dX2_differ_15 rfl (lv_at hl 1 rfl) ?_
      refine lv_iload_n hx hb dX2_differ_16 rfl (lv_at hl 2 rfl) ?_
      obtain ⟨cn_23, v_23, b_23, m_23, st_23, i_23, e_23, fv_23, fb_23, fm_23, fst_23, fi_23⟩ := hPI.a1 hy0
      obtain ⟨k_23, hk_23⟩ := va_plg hy0.1 e_23
      refine va_callq (va_runV (b := y0) (As := [.int f0]) (rest := [.null]) ⟨hx, hb, hml, hown, hts⟩ (t_X1_held l dC dI TT H.size kT kI kJ K L f hPI y0 hy0 f0) (cwV 1 hts gX2_differ_X1_held rfl rfl rfl (by decide +kernel) ⟨Nat.le_of_ble_eq_true rfl, Nat.le_of_ble_eq_true rfl⟩) ⟨pr_blind, va_recv hK hP (ci := 1) rfl hk_23, (pr_S (ws := va_pl L f) (wA := []) (tys := [(kT, .object RX1), (kI, .int), (kJ, .long)]) hP hK vd_nil hst hS (ro_free hS hA)).2⟩ rfl rfl hl.1 rfl (lv_room (Nat.le_of_ble_eq_true rfl)) dX2_differ_17 ⟨Nat.le_of_ble_eq_true rfl, Nat.le_of_ble_eq_true rfl⟩) hS (fun q _ h => (ro_free hS hA) q h) (ro_free hS hA) (fun r_24 u t H1 locs ht hvm hw hB hz1 hk1 hS => ?_)
      have hP := ro_keep hP hk1
      generalize H1 = H at hP hS ⊢
      rcases r_24 with _ | y_25
      · refine W.eq (g2 := F0 m 20 ls [.null, .null]) rfl ?_
        refine W.eq (g2 := F0 m 20 ls (va_rf none :: va_rf none :: [])) rfl ?_
        refine lv_acmp_eq (tgt := 27) hx hb dX2_differ_20 (by decide) (fun _ => ?_) (fun _ => ?_)
        · refine lv_iconst (v := 0) hx hb dX2_differ_27 (by decide) ?_
          exact W.zret (v := 0) hx hb hr rfl (fun t ht hW => ⟨⟨0, (), rfl, Or.inr rfl, trivial⟩, hS.F ht⟩) hS.2.2 dX2_differ_28
        · refine lv_iconst (v := 1) hx hb dX2_differ_23 (by decide) ?_
          refine lv_goto (tgt := 28) hx hb dX2_differ_24 (by decide) ?_
          exact W.zret (v := 1) hx hb hr rfl (fun t ht hW => ⟨⟨1, (), rfl, Or.inl rfl, trivial⟩, hS.F ht⟩) hS.2.2 dX2_differ_28
      · have fy_25 := hw y_25 rfl
        refine W.eq (g2 := F0 m 20 ls [.ref y_25, .null]) rfl ?_
        refine W.eq (g2 := F0 m 20 ls (va_rf (some y_25) :: va_rf none :: [])) rfl ?_
        refine lv_acmp_eq (tgt := 27) hx hb dX2_differ_20 (by decide) (fun _ => ?_) (fun _ => ?_)
        · refine lv_iconst (v := 0) hx hb dX2_differ_27 (by decide) ?_
          exact W.zret (v := 0) hx hb hr rfl (fun t ht hW => ⟨⟨0, (), rfl, Or.inr rfl, trivial⟩, hS.F ht⟩) hS.2.2 dX2_differ_28
        · refine lv_iconst (v := 1) hx hb dX2_differ_23 (by decide) ?_
          refine lv_goto (tgt := 28) hx hb dX2_differ_24 (by decide) ?_
          exact W.zret (v := 1) hx hb hr rfl (fun t ht hW => ⟨⟨1, (), rfl, Or.inl rfl, trivial⟩, hS.F ht⟩) hS.2.2 dX2_differ_28
    · have fy_22 := hw y_22 rfl
      refine W.eq (g2 := F0 m 15 ls [.ref y_22]) rfl ?_
      refine lv_aload_n hx hb dX2_differ_15 rfl (lv_at hl 1 rfl) ?_
      refine lv_iload_n hx hb dX2_differ_16 rfl (lv_at hl 2 rfl) ?_
      obtain ⟨cn_26, v_26, b_26, m_26, st_26, i_26, e_26, fv_26, fb_26, fm_26, fst_26, fi_26⟩ := hPI.a1 hy0
      obtain ⟨k_26, hk_26⟩ := va_plg hy0.1 e_26
      refine va_callq (va_runV (b := y0) (As := [.int f0]) (rest := [.ref y_22]) ⟨hx, hb, hml, hown, hts⟩ (t_X1_held l dC dI TT H.size kT kI kJ K L f hPI y0 hy0 f0) (cwV 1 hts gX2_differ_X1_held rfl rfl rfl (by decide +kernel) ⟨Nat.le_of_ble_eq_true rfl, Nat.le_of_ble_eq_true rfl⟩) ⟨pr_blind, va_recv hK hP (ci := 1) rfl hk_26, (pr_S (ws := va_pl L f) (wA := []) (tys := [(kT, .object RX1), (kI, .int), (kJ, .long)]) hP hK vd_nil hst hS (ro_free hS hA)).2⟩ rfl rfl hl.1 rfl (lv_room (Nat.le_of_ble_eq_true rfl)) dX2_differ_17 ⟨Nat.le_of_ble_eq_true rfl, Nat.le_of_ble_eq_true rfl⟩) hS (fun q _ h => (ro_free hS hA) q h) (ro_free hS hA) (fun r_27 u t H1 locs ht hvm hw hB hz1 hk1 hS => ?_)
      have hP := ro_keep hP hk1
      generalize H1 = H at hP hS ⊢
      rcases r_27 with _ | y_28
      · refine W.eq (g2 := F0 m 20 ls [.null, .ref y_22]) rfl ?_
        refine W.eq (g2 := F0 m 20 ls (va_rf none :: va_rf (some y_22) :: [])) rfl ?_
        refine lv_acmp_eq (tgt := 27) hx hb dX2_differ_20 (by decide) (fun _ => ?_) (fun _ => ?_)
        · refine lv_iconst (v := 0) hx hb dX2_differ_27 (by decide) ?_
          exact W.zret (v := 0) hx hb hr rfl (fun t ht hW => ⟨⟨0, (), rfl, Or.inr rfl, trivial⟩, hS.F ht⟩) hS.2.2 dX2_differ_28
        · refine lv_iconst (v := 1) hx hb dX2_differ_23 (by decide) ?_
          refine lv_goto (tgt := 28) hx hb dX2_differ_24 (by decide) ?_
          exact W.zret (v := 1) hx hb hr rfl (fun t ht hW => ⟨⟨1, (), rfl, Or.inl rfl, trivial⟩, hS.F ht⟩) hS.2.2 dX2_differ_28
      · have fy_28 := hw y_28 rfl
        refine W.eq (g2 := F0 m 20 ls [.ref y_28, .ref y_22]) rfl ?_
        refine W.eq (g2 := F0 m 20 ls (va_rf (some y_28) :: va_rf (some y_22) :: [])) rfl ?_
        refine lv_acmp_eq (tgt := 27) hx hb dX2_differ_20 (by decide) (fun _ => ?_) (fun _ => ?_)
        · refine lv_iconst (v := 0) hx hb dX2_differ_27 (by decide) ?_
          exact W.zret (v := 0) hx hb hr rfl (fun t ht hW => ⟨⟨0, (), rfl, Or.inr rfl, trivial⟩, hS.F ht⟩) hS.2.2 dX2_differ_28
        · refine lv_iconst (v := 1) hx hb dX2_differ_23 (by decide) ?_
          refine lv_goto (tgt := 28) hx hb dX2_differ_24 (by decide) ?_
          exact W.zret (v := 1) hx hb hr rfl (fun t ht hW => ⟨⟨1, (), rfl, Or.inl rfl, trivial⟩, hS.F ht⟩) hS.2.2 dX2_differ_28
set_option maxRecDepth 20000 in
theorem in_t_X2_changed_X1 : ∀ w ∈ u_ws RX1 TX1 6, w ∈ wsX2_changed := by decide +kernel
set_option maxRecDepth 20000 in
theorem in_t_X2_changed_X2 : ∀ w ∈ u_ws RX2 TX2 9, w ∈ wsX2_changed := by decide +kernel
set_option maxRecDepth 100000 in
set_option maxHeartbeats 4000000 in
theorem t_X2_changed (l : Launch) (dC : Nat → ClassId) (dI : Nat → Nat → Nat) (TT : Nat × Nat × Nat) (sz : Nat) (kT kI kJ : ClassId) (K : Nat → Nat) (L : List Nat) (f : Nat → va_E) (hPI : PI kT kI kJ K L f) (h0 : Nat) (hh0 : isr K L 2 h0) (p0 : Int32) (p1 : Int32) (p2 : Int32) : Met l yX2_changed wsX2_changed ({ frames := 2, cells := 0, slots := 0, locals := 44 } : Room) (va_Pc [.ref h0, .int p0, .int p1, .int p2] (pr dC dI (va_pl L f) [] [(kT, .object RX1), (kI, .int), (kJ, .long)] sz TT)) (va_Qi (fun (r : Int32) (u : Unit) => True) (fun _ _ => True) (va_A [] sz)) 0 0 (va_A [] sz) := by
  refine Met.ofW (cc := cX2_changed) (maxL := 8) (ret := (some .int)) (by decide) rfl ?_
  intro p e s m args below meth c s₁ B hml hv
  obtain ⟨rfl, hsz, hP, hK, hD0, hst⟩ := hv
  have hx := B.exec
  have hb := B.bytes
  have hr := B.returns
  have hts := atoms_spec (ws := wsX2_changed) B.pre
  have hown : s.vm.findClass RX2 = some m.cls := findClass_of_methodNamed B.named
  have hlocks := B.notSynchronized
  have iX1_ := in_t_X2_changed_X1
  have iX2_ := in_t_X2_changed_X2
  subst hsz
  have hD := hD0.self (sz := s.heap.size)
  generalize hAe : va_A [] s.heap.size = A at hD hst ⊢
  have hA : ∀ q : Nat, s.heap.size ≤ q → A q := fun q h => by rw [← hAe]; exact Or.inr h
  have hS : va_S A s.heap s.heap [] := va_S.rf
  have hl := lv_entry ([.ref h0, .int p0, .int p1, .int p2]) (n := 8) (Nat.le_of_ble_eq_true rfl)
  rw [lg_entry_eq]
  generalize (lg_sl ([.ref h0, .int p0, .int p1, .int p2]) ++ List.replicate (8 - (lg_sl ([.ref h0, .int p0, .int p1, .int p2])).length) Slot.unset).toArray = ls at hl ⊢
  have hl : lv_has ls 8 [(0, .ref h0), (1, .int p0), (2, .int p1), (3, .int p2)] := hl
  have km14_ : Int32.toInt (-14) = -14 := by decide
  have km11_ : Int32.toInt (-11) = -11 := by decide
  have km4_ : Int32.toInt (-4) = -4 := by decide
  have km1_ : Int32.toInt (-1) = -1 := by decide
  have k0_ : Int32.toInt 0 = 0 := by decide
  have k17_ : Int32.toInt 17 = 17 := by decide
  refine W_nameQ (fun Q0 eQ => ?_)
  refine lv_iload_n hx hb dX2_changed_0 rfl (lv_at hl 1 rfl) ?_
  refine va_calli (va_runS (As := [.int p0]) (rest := []) ⟨hx, hb, hml, hown, hts⟩ (c_X2_isSlot l dC dI TT s.heap.size p0) (va_cwS 1 hts gX2_changed_X2_isSlot rfl rfl rfl (by decide +kernel) ⟨Nat.le_of_ble_eq_true rfl, Nat.le_of_ble_eq_true rfl⟩) (pr_S (ws := []) (wA := []) (tys := []) vp_nil (hK.sub [] rfl) vd_nil hst hS (ro_free hS hA)) rfl rfl hl.1 rfl (lv_room (Nat.le_of_ble_eq_true rfl)) dX2_changed_1 ⟨Nat.le_of_ble_eq_true rfl, Nat.le_of_ble_eq_true rfl⟩) hS (fun q _ h => (ro_free hS hA) q h) (ro_free hS hA) (fun r_1 u t H1 locs ht hvm hw hB hz1 hk1 hS => ?_)
  have hP := ro_keep hP hk1
  generalize H1 = H at hP hS ⊢
  rcases hw with ⟨rfl, hp_2⟩ | ⟨rfl, hp_2⟩
  · refine lv_if_eq (tgt := 18) hx hb dX2_changed_4 (by decide) (fun c9 => absurd c9 (by decide)) (fun _ => ?_)
    refine lv_iload_n hx hb dX2_changed_7 rfl (lv_at hl 2 rfl) ?_
    refine va_calli (va_runS (As := [.int p1]) (rest := []) ⟨hx, hb, hml, hown, hts⟩ (c_X2_isSlot l dC dI TT H.size p1) (va_cwS 1 hts gX2_changed_X2_isSlot rfl rfl rfl (by decide +kernel) ⟨Nat.le_of_ble_eq_true rfl, Nat.le_of_ble_eq_true rfl⟩) (pr_S (ws := []) (wA := []) (tys := []) vp_nil (hK.sub [] rfl) vd_nil hst hS (ro_free hS hA)) rfl rfl hl.1 rfl (lv_room (Nat.le_of_ble_eq_true rfl)) dX2_changed_8 ⟨Nat.le_of_ble_eq_true rfl, Nat.le_of_ble_eq_true rfl⟩) hS (fun q _ h => (ro_free hS hA) q h) (ro_free hS hA) (fun r_3 u t H1 locs ht hvm hw hB hz1 hk1 hS => ?_)
    have hP := ro_keep hP hk1
    generalize H1 = H at hP hS ⊢
    rcases hw with ⟨rfl, hp_4⟩ | ⟨rfl, hp_4⟩
    · refine lv_if_eq (tgt := 18) hx hb dX2_changed_11 (by decide) (fun c9 => absurd c9 (by decide)) (fun _ => ?_)
      refine lv_iload_n hx hb dX2_changed_14 rfl (lv_at hl 3 rfl) ?_
      refine lv_if_ge (tgt := 20) hx hb dX2_changed_15 (by decide) (fun c_5 => ?_) (fun c_5 => ?_)
      · have c_5 := Int32.le_iff_toInt_le.mp c_5
        refine lv_aload_n hx hb dX2_changed_20 rfl (lv_at hl 0 rfl) ?_
        obtain ⟨q1_6, pc_6, c1_6, c2_6, c3_6, q5_6, fc_6, q7_6, mc_6, e_6, fq1_6, fc1_6, fc2_6, fc3_6, fq5_6, ffc_6, fq7_6, fmc_6⟩ := hPI.a2 hh0
        obtain ⟨k_6, hk_6⟩ := va_plg hh0.1 e_6
        refine va_get (D := (dC, dI)) (ci := 2) (v := .ref q1_6) (C := RX2) (T := TX2) (N := 9) hx hb hts iX2_ hown hK hP k_6 hk_6 rfl 0 (by decide) (hts (.fieldLink RX2 11 "FieldLeaves" "slots" "[LFieldLeaves$Thing;") (by decide +kernel)) (fun _ h9 => h9) rfl dX2_changed_21 ?_
        refine lv_iload_n hx hb dX2_changed_24 rfl (lv_at hl 1 rfl) ?_
        obtain ⟨g_7, e_7, fg_7⟩ := hPI.a5 fq1_6
        obtain ⟨k_7, hk_7⟩ := va_plg fq1_6.1 e_7
        have h_7 : vp_in p0 12 := (vp_in_iff.mpr (by constructor <;> omega))
        refine va_aldq hx hb hK hP k_7 0 hk_7 rfl h_7 dX2_changed_25 ?_
        have fo_7 := fg_7 _ (vp_lt h_7)
        generalize eo_7 : g_7 (Int32.toNatClampNeg p0) = o_7 at fo_7 ⊢
        rcases o_7 with _ | y_8
        · refine W.eq (g2 := F0 m 26 ls [.null]) rfl ?_
          refine lv_astoreN (lv' := [(4, .null), (0, .ref h0), (1, .int p0), (2, .int p1), (3, .int p2)]) hx hb dX2_changed_26 hl (by decide) rfl (fun ls hl => ?_)
          refine lv_aload_n hx hb dX2_changed_28 rfl (lv_at hl 1 rfl) ?_
          obtain ⟨k_9, hk_9⟩ := va_plg hh0.1 e_6
          refine va_get (D := (dC, dI)) (ci := 2) (v := .ref q1_6) (C := RX2) (T := TX2) (N := 9) hx hb hts iX2_ hown hK hP k_9 hk_9 rfl 0 (by decide) (hts (.fieldLink RX2 11 "FieldLeaves" "slots" "[LFieldLeaves$Thing;") (by decide +kernel)) (fun _ h9 => h9) rfl dX2_changed_29 ?_
          refine lv_iload_n hx hb dX2_changed_32 rfl (lv_at hl 3 rfl) ?_
          obtain ⟨k_10, hk_10⟩ := va_plg fq1_6.1 e_7
          have h_10 : vp_in p1 12 := (vp_in_iff.mpr (by constructor <;> omega))
          refine va_aldq hx hb hK hP k_10 0 hk_10 rfl h_10 dX2_changed_33 ?_
          have fo_10 := fg_7 _ (vp_lt h_10)
          generalize eo_10 : g_7 (Int32.toNatClampNeg p1) = o_10 at fo_10 ⊢
          rcases o_10 with _ | y_11
          · refine W.eq (g2 := F0 m 34 ls [.null]) rfl ?_
            refine lv_astoreN (lv' := [(5, .null), (4, .null), (0, .ref h0), (1, .int p0), (2, .int p1), (3, .int p2)]) hx hb dX2_changed_34 hl (by decide) rfl (fun ls hl => ?_)
            refine lv_aloadN hx hb dX2_changed_36 (lv_at hl 1 rfl) ?_
            refine lv_ifnullN (tgt := 46) hx hb dX2_changed_38 (by decide) ?_
            refine lv_bipush (v := (-11)) hx hb dX2_changed_46 (by decide) ?_
            subst eQ
            exact W.iret (v := (-11)) hx hb hr (fun t ht hW => ⟨⟨(-11), (), rfl, trivial, trivial⟩, hS.F ht⟩) hS.2.2 dX2_changed_48
          · have fy_11 := fo_10 y_11 rfl
            refine W.eq (g2 := F0 m 34 ls [.ref y_11]) rfl ?_
            refine lv_astore (lv' := [(5, .ref y_11), (4, .null), (0, .ref h0), (1, .int p0), (2, .int p1), (3, .int p2)]) hx hb dX2_changed_34 hl (by decide) rfl (fun ls hl => ?_)
            refine lv_aloadN hx hb dX2_changed_36 (lv_at hl 1 rfl) ?_
            refine lv_ifnullN (tgt := 46) hx hb dX2_changed_38 (by decide) ?_
            refine lv_bipush (v := (-11)) hx hb dX2_changed_46 (by decide) ?_
            subst eQ
            exact W.iret (v := (-11)) hx hb hr (fun t ht hW => ⟨⟨(-11), (), rfl, trivial, trivial⟩, hS.F ht⟩) hS.2.2 dX2_changed_48
        · have fy_8 := fo_7 y_8 rfl
          refine W.eq (g2 := F0 m 26 ls [.ref y_8]) rfl ?_
          refine lv_astore (lv' := [(4, .ref y_8), (0, .ref h0), (1, .int p0), (2, .int p1), (3, .int p2)]) hx hb dX2_changed_26 hl (by decide) rfl (fun ls hl => ?_)
          refine lv_aload_n hx hb dX2_changed_28 rfl (lv_at hl 1 rfl) ?_
          obtain ⟨k_12, hk_12⟩ := va_plg hh0.1 e_6
          refine va_get (D := (dC, dI)) (ci := 2) (v := .ref q1_6) (C := RX2) (T := TX2) (N := 9) hx hb hts iX2_ hown hK hP k_12 hk_12 rfl 0 (by decide) (hts (.fieldLink RX2 11 "FieldLeaves" "slots" "[LFieldLeaves$Thing;") (by decide +kernel)) (fun _ h9 => h9) rfl dX2_changed_29 ?_
          refine lv_iload_n hx hb dX2_changed_32 rfl (lv_at hl 3 rfl) ?_
          obtain ⟨k_13, hk_13⟩ := va_plg fq1_6.1 e_7
          have h_13 : vp_in p1 12 := (vp_in_iff.mpr (by constructor <;> omega))
          refine va_aldq hx hb hK hP k_13 0 hk_13 rfl h_13 dX2_changed_33 ?_
          have fo_13 := fg_7 _ (vp_lt h_13)
          generalize eo_13 : g_7 (Int32.toNatClampNeg p1) = o_13 at fo_13 ⊢
          rcases o_13 with _ | y_14
          · refine W.eq (g2 := F0 m 34 ls [.null]) rfl ?_
            refine lv_astoreN (lv' := [(5, .null), (4, .ref y_8), (0, .ref h0), (1, .int p0), (2, .int p1), (3, .int p2)]) hx hb dX2_changed_34 hl (by decide) rfl (fun ls hl => ?_)
            refine lv_aload hx hb dX2_changed_36 (lv_at hl 1 rfl) ?_
            refine lv_ifnull hx hb dX2_changed_38 ?_
            refine lv_aloadN hx hb dX2_changed_41 (lv_at hl 0 rfl) ?_
            refine lv_ifnonnullN hx hb dX2_changed_43 ?_
            refine lv_bipush (v := (-11)) hx hb dX2_changed_46 (by decide) ?_
            subst eQ
            exact W.iret (v := (-11)) hx hb hr (fun t ht hW => ⟨⟨(-11), (), rfl, trivial, trivial⟩, hS.F ht⟩) hS.2.2 dX2_changed_48
          · have fy_14 := fo_13 y_14 rfl
            refine W.eq (g2 := F0 m 34 ls [.ref y_14]) rfl ?_
            refine lv_astore (lv' := [(5, .ref y_14), (4, .ref y_8), (0, .ref h0), (1, .int p0), (2, .int p1), (3, .int p2)]) hx hb dX2_changed_34 hl (by decide) rfl (fun ls hl => ?_)
            refine lv_aload hx hb dX2_changed_36 (lv_at hl 1 rfl) ?_
            refine lv_ifnull hx hb dX2_changed_38 ?_
            refine lv_aload hx hb dX2_changed_41 (lv_at hl 0 rfl) ?_
            refine lv_ifnonnull (tgt := 49) hx hb dX2_changed_43 (by decide) ?_
            refine lv_aload hx hb dX2_changed_49 (lv_at hl 1 rfl) ?_
            obtain ⟨cn_15, v_15, b_15, m_15, st_15, i_15, e_15, fv_15, fb_15, fm_15, fst_15, fi_15⟩ := hPI.a1 fy_8
            obtain ⟨k_15, hk_15⟩ := va_plg fy_8.1 e_15
            refine va_get (D := (dC, dI)) (ci := 1) (v := .int cn_15) (C := RX1) (T := TX1) (N := 6) hx hb hts iX1_ hown hK hP k_15 hk_15 rfl 0 (by decide) (hts (.fieldLink RX2 45 "FieldLeaves$Thing" "classNumber" "I") (by decide +kernel)) (fun _ h9 => h9) rfl dX2_changed_51 ?_
            refine lv_aload hx hb dX2_changed_54 (lv_at hl 0 rfl) ?_
            obtain ⟨cn_16, v_16, b_16, m_16, st_16, i_16, e_16, fv_16, fb_16, fm_16, fst_16, fi_16⟩ := hPI.a1 fy_14
            obtain ⟨k_16, hk_16⟩ := va_plg fy_14.1 e_16
            refine va_get (D := (dC, dI)) (ci := 1) (v := .int cn_16) (C := RX1) (T := TX1) (N := 6) hx hb hts iX1_ hown hK hP k_16 hk_16 rfl 0 (by decide) (hts (.fieldLink RX2 45 "FieldLeaves$Thing" "classNumber" "I") (by decide +kernel)) (fun _ h9 => h9) rfl dX2_changed_56 ?_
            refine lv_icmp_eq (tgt := 65) hx hb dX2_changed_59 (by decide) (fun c_17 => ?_) (fun c_17 => ?_)
            · have c_17 := congrArg Int32.toInt c_17
              refine lv_iconst (v := 0) hx hb dX2_changed_65 (by decide) ?_
              refine lv_istore (lv' := [(6, .int 0), (5, .ref y_14), (4, .ref y_8), (0, .ref h0), (1, .int p0), (2, .int p1), (3, .int p2)]) hx hb dX2_changed_66 hl (by decide) rfl (fun ls hl => ?_)
              refine lv_iconst (v := 0) hx hb dX2_changed_68 (by decide) ?_
              refine lv_istore (lv' := [(7, .int 0), (6, .int 0), (5, .ref y_14), (4, .ref y_8), (0, .ref h0), (1, .int p0), (2, .int p1), (3, .int p2)]) hx hb dX2_changed_69 hl (by decide) rfl (fun ls hl => ?_)
              have loop_71 : ∀ (n : Nat) (i6 : Int32) (i7 : Int32)   (H : Heap) (locs : List Loc) (ls : Array Slot), (0 ≤ i7.toInt ∧ i7.toInt ≤ 17) → (17 - i7.toInt).toNat < n → va_P (dC, dI) vwCl (va_pl L f) H → va_S A s.heap H locs → lv_has ls 8 [(7, .int i7), (6, .int i6), (5, .ref y_14), (4, .ref y_8), (0, .ref h0), (1, .int p0), (2, .int p1), (3, .int p2)] → W p l e (headSpec wsX2_changed ({ frames := 2, cells := 0, slots := 0, locals := 44 } : Room)).room s m (([.ref h0, .int p0, .int p1, .int p2] : List Value).toArray) below meth c H locs 0 0 Q0 (F0 m 71 ls []) := by
                intro n
                induction n with
                | zero => intro i6 i7 H locs ls  _ h9; exact absurd h9 (Nat.not_lt_zero _)
                | succ n ih_71 =>
                  intro i6 i7 H locs ls  hI hM hP hS hl
                  refine lv_iload hx hb dX2_changed_71 (lv_at hl 0 rfl) ?_
                  refine lv_bipush (v := 17) hx hb dX2_changed_73 (by decide) ?_
                  refine lv_icmp_ge (tgt := 108) hx hb dX2_changed_75 (by decide) (fun c_18 => ?_) (fun c_18 => ?_)
                  · have c_18 := Int32.le_iff_toInt_le.mp c_18
                    refine lv_bipush (v := (-4)) hx hb dX2_changed_108 (by decide) ?_
                    subst eQ
                    exact W.iret (v := (-4)) hx hb hr (fun t ht hW => ⟨⟨(-4), (), rfl, trivial, trivial⟩, hS.F ht⟩) hS.2.2 dX2_changed_110
                  · have c_18 := mt Int32.le_iff_toInt_le.mpr c_18
                    refine lv_aload hx hb dX2_changed_78 (lv_at hl 3 rfl) ?_
                    refine lv_aload hx hb dX2_changed_80 (lv_at hl 2 rfl) ?_
                    refine lv_iload hx hb dX2_changed_82 (lv_at hl 0 rfl) ?_
                    refine va_calli (va_runS (As := [.ref y_8, .ref y_14, .int i7]) (rest := []) ⟨hx, hb, hml, hown, hts⟩ (t_X2_differ l dC dI TT H.size kT kI kJ K L f hPI y_8 fy_8 y_14 fy_14 i7 (by constructor <;> omega)) (va_cwS 3 hts gX2_changed_X2_differ rfl rfl rfl (by decide +kernel) ⟨Nat.le_of_ble_eq_true rfl, Nat.le_of_ble_eq_true rfl⟩) (pr_S (ws := va_pl L f) (wA := []) (tys := [(kT, .object RX1), (kI, .int), (kJ, .long)]) hP hK vd_nil hst hS (ro_free hS hA)) rfl rfl hl.1 rfl (lv_room (Nat.le_of_ble_eq_true rfl)) dX2_changed_84 ⟨Nat.le_of_ble_eq_true rfl, Nat.le_of_ble_eq_true rfl⟩) hS (fun q _ h => (ro_free hS hA) q h) (ro_free hS hA) (fun r_19 u t H1 locs ht hvm hw hB hz1 hk1 hS => ?_)
                    have hP := ro_keep hP hk1
                    generalize H1 = H at hP hS ⊢
                    rcases hw with rfl | rfl
                    · refine lv_if_eq (tgt := 102) hx hb dX2_changed_87 (by decide) (fun c9 => absurd c9 (by decide)) (fun _ => ?_)
                      refine lv_iload hx hb dX2_changed_90 (lv_at hl 1 rfl) ?_
                      refine lv_iload_n hx hb dX2_changed_92 rfl (lv_at hl 7 rfl) ?_
                      refine lv_icmp_ne (tgt := 99) hx hb dX2_changed_93 (by decide) (fun c_20 => ?_) (fun c_20 => ?_)
                      · have c_20 := mt Int32.toInt_inj.mp c_20
                        obtain ⟨i_21, ei_21⟩ : ∃ y : Int32, y = i6 + 1 := ⟨_, rfl⟩
                        refine lv_iinc (v := i_21) (lv' := [(6, .int i_21), (7, .int i7), (5, .ref y_14), (4, .ref y_8), (0, .ref h0), (1, .int p0), (2, .int p1), (3, .int p2)]) hx hb dX2_changed_99 hl (k := 1) rfl (by rw [ei_21]; rfl) (by decide) rfl (fun ls hl => ?_)
                        obtain ⟨i_22, ei_22⟩ : ∃ y : Int32, y = i7 + 1 := ⟨_, rfl⟩
                        refine lv_iinc (v := i_22) (lv' := [(7, .int i_22), (6, .int i_21), (5, .ref y_14), (4, .ref y_8), (0, .ref h0), (1, .int p0), (2, .int p1), (3, .int p2)]) hx hb dX2_changed_102 hl (k := 1) rfl (by rw [ei_22]; rfl) (by decide) rfl (fun ls hl => ?_)
                        have ki_22 := inc_toInt ei_22 (by omega)
                        refine lv_goto (tgt := 71) hx hb dX2_changed_105 (by decide) ?_
                        exact ih_71 i_21 i_22 _ _ _  (by omega) (by omega) hP hS (lv_sub hl [0, 1, 2, 3, 4, 5, 6, 7] rfl)
                      · have c_20 := congrArg Int32.toInt c_20
                        refine lv_iload hx hb dX2_changed_96 (lv_at hl 0 rfl) ?_
                        subst eQ
                        exact W.iret (v := i7) hx hb hr (fun t ht hW => ⟨⟨i7, (), rfl, trivial, trivial⟩, hS.F ht⟩) hS.2.2 dX2_changed_98
                    · refine lv_if_eq (tgt := 102) hx hb dX2_changed_87 (by decide) (fun _ => ?_) (fun c9 => absurd c9 (by decide))
                      obtain ⟨i_23, ei_23⟩ : ∃ y : Int32, y = i7 + 1 := ⟨_, rfl⟩
                      refine lv_iinc (v := i_23) (lv' := [(7, .int i_23), (6, .int i6), (5, .ref y_14), (4, .ref y_8), (0, .ref h0), (1, .int p0), (2, .int p1), (3, .int p2)]) hx hb dX2_changed_102 hl (k := 0) rfl (by rw [ei_23]; rfl) (by decide) rfl (fun ls hl => ?_)
                      have ki_23 := inc_toInt ei_23 (by omega)
                      refine lv_goto (tgt := 71) hx hb dX2_changed_105 (by decide) ?_
                      exact ih_71 i6 i_23 _ _ _  (by omega) (by omega) hP hS (lv_sub hl [0, 1, 2, 3, 4, 5, 6, 7] rfl)
              exact loop_71 18 0 0 _ _ _  (by omega) (by omega) hP hS hl
            · have c_17 := mt Int32.toInt_inj.mp c_17
              refine lv_bipush (v := (-14)) hx hb dX2_changed_62 (by decide) ?_
              subst eQ
              exact W.iret (v := (-14)) hx hb hr (fun t ht hW => ⟨⟨(-14), (), rfl, trivial, trivial⟩, hS.F ht⟩) hS.2.2 dX2_changed_64
      · have c_5 := mt Int32.le_iff_toInt_le.mpr c_5
        refine lv_iconst (v := (-1)) hx hb dX2_changed_18 (by decide) ?_
        subst eQ
        exact W.iret (v := (-1)) hx hb hr (fun t ht hW => ⟨⟨(-1), (), rfl, trivial, trivial⟩, hS.F ht⟩) hS.2.2 dX2_changed_19
    · refine lv_if_eq (tgt := 18) hx hb dX2_changed_11 (by decide) (fun _ => ?_) (fun c9 => absurd c9 (by decide))
      refine lv_iconst (v := (-1)) hx hb dX2_changed_18 (by decide) ?_
      subst eQ
      exact W.iret (v := (-1)) hx hb hr (fun t ht hW => ⟨⟨(-1), (), rfl, trivial, trivial⟩, hS.F ht⟩) hS.2.2 dX2_changed_19
  · refine lv_if_eq (tgt := 18) hx hb dX2_changed_4 (by decide) (fun _ => ?_) (fun c9 => absurd c9 (by decide))
    refine lv_iconst (v := (-1)) hx hb dX2_changed_18 (by decide) ?_
    subst eQ
    exact W.iret (v := (-1)) hx hb hr (fun t ht hW => ⟨⟨(-1), (), rfl, trivial, trivial⟩, hS.F ht⟩) hS.2.2 dX2_changed_19

