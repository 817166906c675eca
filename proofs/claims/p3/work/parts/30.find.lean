theorem clamp_int {i : Int32} (h : 0 ≤ i.toInt) : ((Int32.toNatClampNeg i : Nat) : Int) = i.toInt := by
  have hc : Int32.toNatClampNeg i = i.toInt.toNat := rfl
  omega
/-- the object h with foundCount fc: the places of found below fc hold objects -/
def FN (kT : ClassId) (K : Nat → Nat) (L : List Nat) (f : Nat → va_E) (h : Nat) (fc : Int32) : Prop := ∃ (q1 : Nat) (pc : Int32) (c1 c2 c3 q5 q7 : Nat) (mc : Int32) (g : Nat → Option Nat), f h = .inr (2, [.ref q1, .int pc, .ref c1, .ref c2, .ref c3, .ref q5, .int fc, .ref q7, .int mc]) ∧ isr K L 5 q1 ∧ isr K L 0 c1 ∧ isr K L 0 c2 ∧ isr K L 0 c3 ∧ isr K L 6 q5 ∧ (0 ≤ fc.toInt ∧ fc.toInt ≤ 24) ∧ isr K L 6 q7 ∧ (0 ≤ mc.toInt ∧ mc.toInt ≤ 24) ∧ f q5 = .inl (kT, 24, .inr (.inr (.inr (.inr g)))) ∧ (∀ j, j < 24 → opr K L 1 (g j)) ∧ ∀ j : Nat, (j : Int) < fc.toInt → g j ≠ none
theorem FN.fr {kT : ClassId} {K : Nat → Nat} {L : List Nat} {f f2 : Nat → va_E} {h : Nat} {fc : Int32} (hF : FN kT K L f h fc) (hh : isr K L 2 h) (hfr : FR sL K L f f2) : FN kT K L f2 h fc := by
  obtain ⟨q1, pc, c1, c2, c3, q5, q7, mc, g, e, h1, h2, h3, h4, h5, h6, h7, h8, e2, h9, h10⟩ := hF
  exact ⟨q1, pc, c1, c2, c3, q5, q7, mc, g, (hfr h hh.1 (by rw [hh.2]; rfl)).trans e, h1, h2, h3, h4, h5, h6, h7, h8, (hfr q5 h5.1 (by rw [h5.2]; rfl)).trans e2, h9, h10⟩
theorem nn_push {g : Nat → Option Nat} {fc z : Int32} {x : Nat} (h : ∀ j : Nat, (j : Int) < fc.toInt → g j ≠ none) (h0 : 0 ≤ fc.toInt) (hz : z.toInt = fc.toInt + 1) : ∀ j : Nat, (j : Int) < z.toInt → va_up g (Int32.toNatClampNeg fc) (some x) j ≠ none := fun j hj => by
  by_cases e : j = Int32.toNatClampNeg fc
  · rw [e, va_up_self]; exact fun h => by cases h
  · rw [va_up_ne _ _ e]
    have hc := clamp_int h0
    exact h j (by omega)
theorem nn_one {g : Nat → Option Nat} {x : Nat} : ∀ j : Nat, (j : Int) < (1 : Int32).toInt → va_up g (Int32.toNatClampNeg 0) (some x) j ≠ none := fun j hj => by
  have e1 : (1 : Int32).toInt = 1 := by decide
  have e : j = Int32.toNatClampNeg 0 := by
    have : Int32.toNatClampNeg 0 = 0 := by decide
    omega
  rw [e, va_up_self]
  exact fun h => by cases h
set_option maxRecDepth 20000 in
theorem in_t_X2_numberOf_X2 : ∀ w ∈ u_ws RX2 TX2 9, w ∈ wsX2_numberOf := by decide +kernel
set_option maxRecDepth 100000 in
set_option maxHeartbeats 4000000 in
theorem t_X2_numberOf (l : Launch) (dC : Nat → ClassId) (dI : Nat → Nat → Nat) (TT : Nat × Nat × Nat) (sz : Nat) (kT kI kJ : ClassId) (K : Nat → Nat) (L : List Nat) (f : Nat → va_E) (hPI : PI kT kI kJ K L f) (h0 : Nat) (hh0 : isr K L 2 h0) (x0 : Nat) (hx0 : isr K L 1 x0) : Met l yX2_numberOf wsX2_numberOf ({ frames := 0, cells := 0, slots := 0, locals := 0 } : Room) (va_Pc [.ref h0, .ref x0] (pr dC dI (va_pl L f) [] [(kT, .object RX1), (kI, .int), (kJ, .long)] sz TT)) (va_Qi (fun (r : Int32) (u : Unit) => True) (fun _ _ => True) (va_A [] sz)) 0 0 (va_A [] sz) := by
  refine Met.ofW (cc := cX2_numberOf) (maxL := 3) (ret := (some .int)) (by decide) rfl ?_
  intro p e s m args below meth c s₁ B hml hv
  obtain ⟨rfl, hsz, hP, hK, hD0, hst⟩ := hv
  have hx := B.exec
  have hb := B.bytes
  have hr := B.returns
  have hts := atoms_spec (ws := wsX2_numberOf) B.pre
  have hown : s.vm.findClass RX2 = some m.cls := findClass_of_methodNamed B.named
  have hlocks := B.notSynchronized
  have iX2_ := in_t_X2_numberOf_X2
  subst hsz
  have hD := hD0.self (sz := s.heap.size)
  generalize hAe : va_A [] s.heap.size = A at hD hst ⊢
  have hA : ∀ q : Nat, s.heap.size ≤ q → A q := fun q h => by rw [← hAe]; exact Or.inr h
  have hS : va_S A s.heap s.heap [] := va_S.rf
  have hl := lv_entry ([.ref h0, .ref x0]) (n := 3) (Nat.le_of_ble_eq_true rfl)
  rw [lg_entry_eq]
  generalize (lg_sl ([.ref h0, .ref x0]) ++ List.replicate (3 - (lg_sl ([.ref h0, .ref x0])).length) Slot.unset).toArray = ls at hl ⊢
  have hl : lv_has ls 3 [(0, .ref h0), (1, .ref x0)] := hl
  have km1_ : Int32.toInt (-1) = -1 := by decide
  have k0_ : Int32.toInt 0 = 0 := by decide
  refine W_nameQ (fun Q0 eQ => ?_)
  refine lv_iconst (v := 0) hx hb dX2_numberOf_0 (by decide) ?_
  refine lv_istore_n (lv' := [(2, .int 0), (0, .ref h0), (1, .ref x0)]) hx hb dX2_numberOf_1 rfl hl (by decide) rfl (fun ls hl => ?_)
  have loop_2 : ∀ (n : Nat) (i2 : Int32)   (H : Heap) (locs : List Loc) (ls : Array Slot), (0 ≤ i2.toInt ∧ i2.toInt ≤ 24) → (24 - i2.toInt).toNat < n → va_P (dC, dI) vwCl (va_pl L f) H → va_S A s.heap H locs → lv_has ls 3 [(2, .int i2), (0, .ref h0), (1, .ref x0)] → W p l e (headSpec wsX2_numberOf ({ frames := 0, cells := 0, slots := 0, locals := 0 } : Room)).room s m (([.ref h0, .ref x0] : List Value).toArray) below meth c H locs 0 0 Q0 (F0 m 2 ls []) := by
    intro n
    induction n with
    | zero => intro i2 H locs ls  _ h9; exact absurd h9 (Nat.not_lt_zero _)
    | succ n ih_2 =>
      intro i2 H locs ls  hI hM hP hS hl
      refine lv_iload_n hx hb dX2_numberOf_2 rfl (lv_at hl 0 rfl) ?_
      refine lv_aload_n hx hb dX2_numberOf_3 rfl (lv_at hl 1 rfl) ?_
      obtain ⟨q1_1, pc_1, c1_1, c2_1, c3_1, q5_1, fc_1, q7_1, mc_1, e_1, fq1_1, fc1_1, fc2_1, fc3_1, fq5_1, ffc_1, fq7_1, fmc_1⟩ := hPI.a2 hh0
      obtain ⟨k_1, hk_1⟩ := va_plg hh0.1 e_1
      refine va_get (D := (dC, dI)) (ci := 2) (v := .int fc_1) (C := RX2) (T := TX2) (N := 9) hx hb hts iX2_ hown hK hP k_1 hk_1 rfl 6 (by decide) (hts (.fieldLink RX2 188 "FieldLeaves" "foundCount" "I") (by decide +kernel)) (fun _ h9 => h9) rfl dX2_numberOf_4 ?_
      refine lv_icmp_ge (tgt := 28) hx hb dX2_numberOf_7 (by decide) (fun c_2 => ?_) (fun c_2 => ?_)
      · have c_2 := Int32.le_iff_toInt_le.mp c_2
        refine lv_iconst (v := (-1)) hx hb dX2_numberOf_28 (by decide) ?_
        subst eQ
        exact W.iret (v := (-1)) hx hb hr (fun t ht hW => ⟨⟨(-1), (), rfl, trivial, trivial⟩, hS.F ht⟩) hS.2.2 dX2_numberOf_29
      · have c_2 := mt Int32.le_iff_toInt_le.mpr c_2
        refine lv_aload_n hx hb dX2_numberOf_10 rfl (lv_at hl 1 rfl) ?_
        obtain ⟨k_3, hk_3⟩ := va_plg hh0.1 e_1
        refine va_get (D := (dC, dI)) (ci := 2) (v := .ref q5_1) (C := RX2) (T := TX2) (N := 9) hx hb hts iX2_ hown hK hP k_3 hk_3 rfl 5 (by decide) (hts (.fieldLink RX2 28 "FieldLeaves" "found" "[LFieldLeaves$Thing;") (by decide +kernel)) (fun _ h9 => h9) rfl dX2_numberOf_11 ?_
        refine lv_iload_n hx hb dX2_numberOf_14 rfl (lv_at hl 0 rfl) ?_
        obtain ⟨g_4, e_4, fg_4⟩ := hPI.a6 fq5_1
        obtain ⟨k_4, hk_4⟩ := va_plg fq5_1.1 e_4
        have h_4 : vp_in i2 24 := (vp_in_iff.mpr (by constructor <;> omega))
        refine va_aldq hx hb hK hP k_4 0 hk_4 rfl h_4 dX2_numberOf_15 ?_
        have fo_4 := fg_4 _ (vp_lt h_4)
        generalize eo_4 : g_4 (Int32.toNatClampNeg i2) = o_4 at fo_4 ⊢
        rcases o_4 with _ | y_5
        · refine W.eq (g2 := F0 m 16 ls [.null]) rfl ?_
          refine lv_aload_n hx hb dX2_numberOf_16 rfl (lv_at hl 2 rfl) ?_
          refine W.eq (g2 := F0 m 17 ls (va_rf (some x0) :: va_rf none :: [])) rfl ?_
          refine lv_acmp_ne (tgt := 22) hx hb dX2_numberOf_17 (by decide) (fun _ => ?_) (fun _ => ?_)
          · obtain ⟨i_6, ei_6⟩ : ∃ y : Int32, y = i2 + 1 := ⟨_, rfl⟩
            refine lv_iinc (v := i_6) (lv' := [(2, .int i_6), (0, .ref h0), (1, .ref x0)]) hx hb dX2_numberOf_22 hl (k := 0) rfl (by rw [ei_6]; rfl) (by decide) rfl (fun ls hl => ?_)
            have ki_6 := inc_toInt ei_6 (by omega)
            refine lv_goto (tgt := 2) hx hb dX2_numberOf_25 (by decide) ?_
            exact ih_2 i_6 _ _ _  (by omega) (by omega) hP hS (lv_sub hl [0, 1, 2] rfl)
          · refine lv_iload_n hx hb dX2_numberOf_20 rfl (lv_at hl 0 rfl) ?_
            subst eQ
            exact W.iret (v := i2) hx hb hr (fun t ht hW => ⟨⟨i2, (), rfl, trivial, trivial⟩, hS.F ht⟩) hS.2.2 dX2_numberOf_21
        · have fy_5 := fo_4 y_5 rfl
          refine W.eq (g2 := F0 m 16 ls [.ref y_5]) rfl ?_
          refine lv_aload_n hx hb dX2_numberOf_16 rfl (lv_at hl 2 rfl) ?_
          refine W.eq (g2 := F0 m 17 ls (va_rf (some x0) :: va_rf (some y_5) :: [])) rfl ?_
          refine lv_acmp_ne (tgt := 22) hx hb dX2_numberOf_17 (by decide) (fun _ => ?_) (fun _ => ?_)
          · obtain ⟨i_7, ei_7⟩ : ∃ y : Int32, y = i2 + 1 := ⟨_, rfl⟩
            refine lv_iinc (v := i_7) (lv' := [(2, .int i_7), (0, .ref h0), (1, .ref x0)]) hx hb dX2_numberOf_22 hl (k := 0) rfl (by rw [ei_7]; rfl) (by decide) rfl (fun ls hl => ?_)
            have ki_7 := inc_toInt ei_7 (by omega)
            refine lv_goto (tgt := 2) hx hb dX2_numberOf_25 (by decide) ?_
            exact ih_2 i_7 _ _ _  (by omega) (by omega) hP hS (lv_sub hl [0, 1, 2] rfl)
          · refine lv_iload_n hx hb dX2_numberOf_20 rfl (lv_at hl 0 rfl) ?_
            subst eQ
            exact W.iret (v := i2) hx hb hr (fun t ht hW => ⟨⟨i2, (), rfl, trivial, trivial⟩, hS.F ht⟩) hS.2.2 dX2_numberOf_21
  exact loop_2 25 0 _ _ _  (by omega) (by omega) hP hS hl
set_option maxRecDepth 100000 in
set_option maxHeartbeats 4000000 in
theorem t_X2_addFound_null (l : Launch) (dC : Nat → ClassId) (dI : Nat → Nat → Nat) (TT : Nat × Nat × Nat) (sz : Nat) (kT kI kJ : ClassId) (K : Nat → Nat) (L : List Nat) (f : Nat → va_E) (hPI : PI kT kI kJ K L f) (h0 : Nat) (hh0 : isr K L 2 h0) : Met l yX2_addFound wsX2_addFound ({ frames := 0, cells := 0, slots := 0, locals := 0 } : Room) (va_Pc [.ref h0, .null] (pr dC dI (va_pl L f) [] [(kT, .object RX1), (kI, .int), (kJ, .long)] sz TT)) (va_Qi (fun (r : Int32) (u : Unit) => r01 r) (fun _ _ => True) (va_A [] sz)) 0 0 (va_A [] sz) := by
  refine Met.ofW (cc := cX2_addFound) (maxL := 2) (ret := (some .boolean)) (by decide) rfl ?_
  intro p e s m args below meth c s₁ B hml hv
  obtain ⟨rfl, hsz, hP, hK, hD0, hst⟩ := hv
  have hx := B.exec
  have hb := B.bytes
  have hr := B.returns
  have hts := atoms_spec (ws := wsX2_addFound) B.pre
  have hown : s.vm.findClass RX2 = some m.cls := findClass_of_methodNamed B.named
  have hlocks := B.notSynchronized
  subst hsz
  have hD := hD0.self (sz := s.heap.size)
  generalize hAe : va_A [] s.heap.size = A at hD hst ⊢
  have hA : ∀ q : Nat, s.heap.size ≤ q → A q := fun q h => by rw [← hAe]; exact Or.inr h
  have hS : va_S A s.heap s.heap [] := va_S.rf
  have hl := lv_entry ([.ref h0, .null]) (n := 2) (Nat.le_of_ble_eq_true rfl)
  rw [lg_entry_eq]
  generalize (lg_sl ([.ref h0, .null]) ++ List.replicate (2 - (lg_sl ([.ref h0, .null])).length) Slot.unset).toArray = ls at hl ⊢
  have hl : lv_has ls 2 [(0, .ref h0), (1, .null)] := hl
  have k1_ : Int32.toInt 1 = 1 := by decide
  refine lv_aload_nN hx hb dX2_addFound_0 rfl (lv_at hl 1 rfl) ?_
  refine lv_ifnullN (tgt := 12) hx hb dX2_addFound_1 (by decide) ?_
  refine lv_iconst (v := 1) hx hb dX2_addFound_12 (by decide) ?_
  exact W.zret (v := 1) hx hb hr rfl (fun t ht hW => ⟨⟨1, (), rfl, Or.inl rfl, trivial⟩, hS.F ht⟩) hS.2.2 dX2_addFound_13
set_option maxRecDepth 20000 in
theorem in_t_X2_addFound_X2 : ∀ w ∈ u_ws RX2 TX2 9, w ∈ wsX2_addFound := by decide +kernel
set_option maxRecDepth 100000 in
set_option maxHeartbeats 4000000 in
theorem t_X2_addFound (l : Launch) (dC : Nat → ClassId) (dI : Nat → Nat → Nat) (TT : Nat × Nat × Nat) (sz : Nat) (kT kI kJ : ClassId) (K : Nat → Nat) (L : List Nat) (f : Nat → va_E) (hPI : PI kT kI kJ K L f) (h0 : Nat) (hh0 : isr K L 2 h0) (x0 : Nat) (hx0 : isr K L 1 x0) (fc0 : Int32) (hFN : FN kT K L f h0 fc0) : Met l yX2_addFound wsX2_addFound ({ frames := 1, cells := 0, slots := 0, locals := 22 } : Room) (va_Pc [.ref h0, .ref x0] (pr dC dI (va_pl L f) (va_pl L f) [(kT, .object RX1), (kI, .int), (kJ, .long)] sz TT)) (va_Qi (fun (r : Int32) (u : Unit) => r01 r) (fun (_ : Unit) t => ∃ f2 : Nat → va_E, PI kT kI kJ K L f2 ∧ (∃ fc2 : Int32, FN kT K L f2 h0 fc2) ∧ va_P (dC, dI) vwCl (va_pl L f2) t.heap ∧ va_D (va_A (va_pl L f) sz) (va_pl L f2)) (va_A (va_pl L f) sz)) 0 0 (va_A (va_pl L f) sz) := by
  refine Met.ofW (cc := cX2_addFound) (maxL := 2) (ret := (some .boolean)) (by decide) rfl ?_
  intro p e s m args below meth c s₁ B hml hv
  obtain ⟨rfl, hsz, hP, hK, hD0, hst⟩ := hv
  have hx := B.exec
  have hb := B.bytes
  have hr := B.returns
  have hts := atoms_spec (ws := wsX2_addFound) B.pre
  have hown : s.vm.findClass RX2 = some m.cls := findClass_of_methodNamed B.named
  have hlocks := B.notSynchronized
  have iX2_ := in_t_X2_addFound_X2
  subst hsz
  have hD := hD0.self (sz := s.heap.size)
  generalize hAe : va_A (va_pl L f) s.heap.size = A at hD hst ⊢
  have hA : ∀ q : Nat, s.heap.size ≤ q → A q := fun q h => by rw [← hAe]; exact Or.inr h
  have hS : va_S A s.heap s.heap [] := va_S.rf
  have hl := lv_entry ([.ref h0, .ref x0]) (n := 2) (Nat.le_of_ble_eq_true rfl)
  rw [lg_entry_eq]
  generalize (lg_sl ([.ref h0, .ref x0]) ++ List.replicate (2 - (lg_sl ([.ref h0, .ref x0])).length) Slot.unset).toArray = ls at hl ⊢
  have hl : lv_has ls 2 [(0, .ref h0), (1, .ref x0)] := hl
  have k0_ : Int32.toInt 0 = 0 := by decide
  have k1_ : Int32.toInt 1 = 1 := by decide
  have k24_ : Int32.toInt 24 = 24 := by decide
  obtain ⟨q1_1, pc_1, c1_1, c2_1, c3_1, q5_1, q7_1, mc_1, g_1, e_1, fq1_1, fc1_1, fc2_1, fc3_1, fq5_1, ffc_1, fq7_1, fmc_1, eg_1, fg_1, nnf_1⟩ := id hFN
  refine lv_aload_n hx hb dX2_addFound_0 rfl (lv_at hl 1 rfl) ?_
  refine lv_ifnull hx hb dX2_addFound_1 ?_
  refine lv_aload_n hx hb dX2_addFound_4 rfl (lv_at hl 0 rfl) ?_
  refine lv_aload_n hx hb dX2_addFound_5 rfl (lv_at hl 1 rfl) ?_
  obtain ⟨k_2, hk_2⟩ := va_plg hh0.1 e_1
  refine va_calli (va_runV (b := h0) (As := [.ref x0]) (rest := []) ⟨hx, hb, hml, hown, hts⟩ (t_X2_numberOf l dC dI TT s.heap.size kT kI kJ K L f hPI h0 hh0 x0 hx0) (cwV 1 hts gX2_addFound_X2_numberOf rfl rfl rfl (by decide +kernel) ⟨Nat.le_of_ble_eq_true rfl, Nat.le_of_ble_eq_true rfl⟩) ⟨pr_blind, va_recv hK hP (ci := 2) rfl hk_2, (pr_S (ws := va_pl L f) (wA := []) (tys := [(kT, .object RX1), (kI, .int), (kJ, .long)]) hP hK vd_nil hst hS (ro_free hS hA)).2⟩ rfl rfl hl.1 rfl (lv_room (Nat.le_of_ble_eq_true rfl)) dX2_addFound_6 ⟨Nat.le_of_ble_eq_true rfl, Nat.le_of_ble_eq_true rfl⟩) hS (fun q _ h => (ro_free hS hA) q h) (ro_free hS hA) (fun r_3 u t H1 locs ht hvm hw hB hz1 hk1 hS => ?_)
  have hP := ro_keep hP hk1
  generalize H1 = H at hP hS ⊢
  refine lv_if_lt (tgt := 14) hx hb dX2_addFound_9 (by decide) (fun c_4 => ?_) (fun c_4 => ?_)
  · have c_4 := Int32.lt_iff_toInt_lt.mp c_4
    refine lv_aload_n hx hb dX2_addFound_14 rfl (lv_at hl 0 rfl) ?_
    obtain ⟨k_5, hk_5⟩ := va_plg hh0.1 e_1
    refine va_get (D := (dC, dI)) (ci := 2) (v := .int fc0) (C := RX2) (T := TX2) (N := 9) hx hb hts iX2_ hown hK hP k_5 hk_5 rfl 6 (by decide) (hts (.fieldLink RX2 188 "FieldLeaves" "foundCount" "I") (by decide +kernel)) (fun _ h9 => h9) rfl dX2_addFound_15 ?_
    refine lv_bipush (v := 24) hx hb dX2_addFound_18 (by decide) ?_
    refine lv_icmp_lt (tgt := 25) hx hb dX2_addFound_20 (by decide) (fun c_6 => ?_) (fun c_6 => ?_)
    · have c_6 := Int32.lt_iff_toInt_lt.mp c_6
      refine lv_aload_n hx hb dX2_addFound_25 rfl (lv_at hl 0 rfl) ?_
      obtain ⟨k_7, hk_7⟩ := va_plg hh0.1 e_1
      refine va_get (D := (dC, dI)) (ci := 2) (v := .ref q5_1) (C := RX2) (T := TX2) (N := 9) hx hb hts iX2_ hown hK hP k_7 hk_7 rfl 5 (by decide) (hts (.fieldLink RX2 28 "FieldLeaves" "found" "[LFieldLeaves$Thing;") (by decide +kernel)) (fun _ h9 => h9) rfl dX2_addFound_26 ?_
      refine lv_aload_n hx hb dX2_addFound_29 rfl (lv_at hl 0 rfl) ?_
      obtain ⟨k_8, hk_8⟩ := va_plg hh0.1 e_1
      refine va_get (D := (dC, dI)) (ci := 2) (v := .int fc0) (C := RX2) (T := TX2) (N := 9) hx hb hts iX2_ hown hK hP k_8 hk_8 rfl 6 (by decide) (hts (.fieldLink RX2 188 "FieldLeaves" "foundCount" "I") (by decide +kernel)) (fun _ h9 => h9) rfl dX2_addFound_30 ?_
      refine lv_aload_n hx hb dX2_addFound_33 rfl (lv_at hl 1 rfl) ?_
      obtain ⟨k_9, hk_9⟩ := va_plg fq5_1.1 eg_1
      have h_9 : vp_in fc0 24 := (vp_in_iff.mpr (by constructor <;> omega))
      obtain ⟨cn_10, v_10, b_10, m_10, st_10, i_10, e_10, fv_10, fb_10, fm_10, fst_10, fi_10⟩ := hPI.a1 hx0
      obtain ⟨k_10, hk_10⟩ := va_plg hx0.1 e_10
      have hD9 := hD
      refine va_astq hx hb hK hP hD hS k_9 0 k_10 1 hk_9 rfl hk_10 rfl h_9 dX2_addFound_34 (fun H locs hP hD hS => ?_)
      have fg2_9 := upr_all (k := Int32.toNatClampNeg fc0) (o := (some x0)) fg_1 (fun _ h9 => by cases h9; exact hx0)
      have hP : va_P (dC, dI) vwCl (va_pl L (va_up f q5_1 (.inl (kT, 24, .inr (.inr (.inr (.inr (va_up g_1 (Int32.toNatClampNeg fc0) (some x0))))))))) H := by rw [← va_pls hD9 fq5_1.1 hk_9 _]; exact hP
      have hD : va_D A (va_pl L (va_up f q5_1 (.inl (kT, 24, .inr (.inr (.inr (.inr (va_up g_1 (Int32.toNatClampNeg fc0) (some x0))))))))) := by rw [← va_pls hD9 fq5_1.1 hk_9 _]; exact hD
      have hPI := hPI.put (e := .inl (kT, 24, .inr (.inr (.inr (.inr (va_up g_1 (Int32.toNatClampNeg fc0) (some x0))))))) fq5_1 ⟨_, rfl, fg2_9⟩
      have es_f_11 : va_up f q5_1 (.inl (kT, 24, .inr (.inr (.inr (.inr (va_up g_1 (Int32.toNatClampNeg fc0) (some x0))))))) q5_1 = .inl (kT, 24, .inr (.inr (.inr (.inr (va_up g_1 (Int32.toNatClampNeg fc0) (some x0)))))) := va_up_self _ _ _
      have eq_12 := (va_up_ne f (.inl (kT, 24, .inr (.inr (.inr (.inr (va_up g_1 (Int32.toNatClampNeg fc0) (some x0))))))) (isr_ne hh0 fq5_1 (by decide))).trans e_1
      have eq_13 := (va_up_ne f (.inl (kT, 24, .inr (.inr (.inr (.inr (va_up g_1 (Int32.toNatClampNeg fc0) (some x0))))))) (isr_ne hx0 fq5_1 (by decide))).trans e_10
      generalize va_up f q5_1 (.inl (kT, 24, .inr (.inr (.inr (.inr (va_up g_1 (Int32.toNatClampNeg fc0) (some x0))))))) = f_11 at hP hD hPI es_f_11 eq_12 eq_13
      refine lv_aload_n hx hb dX2_addFound_35 rfl (lv_at hl 0 rfl) ?_
      refine lv_dup hx hb dX2_addFound_36 rfl ?_
      obtain ⟨k_14, hk_14⟩ := va_plg hh0.1 eq_12
      refine va_get (D := (dC, dI)) (ci := 2) (v := .int fc0) (C := RX2) (T := TX2) (N := 9) hx hb hts iX2_ hown hK hP k_14 hk_14 rfl 6 (by decide) (hts (.fieldLink RX2 188 "FieldLeaves" "foundCount" "I") (by decide +kernel)) (fun _ h9 => h9) rfl dX2_addFound_37 ?_
      refine lv_iconst (v := 1) hx hb dX2_addFound_40 (by decide) ?_
      refine lv_iadd hx hb dX2_addFound_41 ?_
      refine lv_topi (fun z_15 ez_15 => ?_)
      have kz_15 := inc_toInt ez_15 (by omega)
      obtain ⟨k_16, hk_16⟩ := va_plg hh0.1 eq_12
      have hD9 := hD
      have rg_17 : 0 ≤ Int32.toInt z_15 ∧ Int32.toInt z_15 ≤ 24 := by constructor <;> omega
      refine va_put (D := (dC, dI)) (ci := 2) (v := .int z_15) (ty := .int) (C := RX2) (T := TX2) (N := 9) hx hb hts iX2_ tyX2 tyX2_ok nmX2 hown hK hP hD hS k_16 hk_16 rfl 6 (by decide) (hts (.fieldLink RX2 188 "FieldLeaves" "foundCount" "I") (by decide +kernel)) (fun _ h9 => h9) rfl (by decide +kernel) rfl rfl (Nat.le_of_ble_eq_true rfl) dX2_addFound_42 (fun H locs hP hD hS => ?_)
      have hP : va_P (dC, dI) vwCl (va_pl L (va_up f_11 h0 (.inr (2, [.ref q1_1, .int pc_1, .ref c1_1, .ref c2_1, .ref c3_1, .ref q5_1, .int z_15, .ref q7_1, .int mc_1])))) H := by rw [← va_pls hD9 hh0.1 hk_16 _]; exact hP
      have hD : va_D A (va_pl L (va_up f_11 h0 (.inr (2, [.ref q1_1, .int pc_1, .ref c1_1, .ref c2_1, .ref c3_1, .ref q5_1, .int z_15, .ref q7_1, .int mc_1])))) := by rw [← va_pls hD9 hh0.1 hk_16 _]; exact hD
      have hPI := hPI.put (e := .inr (2, [.ref q1_1, .int pc_1, .ref c1_1, .ref c2_1, .ref c3_1, .ref q5_1, .int z_15, .ref q7_1, .int mc_1])) hh0 ⟨q1_1, pc_1, c1_1, c2_1, c3_1, q5_1, z_15, q7_1, mc_1, rfl, fq1_1, fc1_1, fc2_1, fc3_1, fq5_1, rg_17, fq7_1, fmc_1⟩
      have es_f_18 : va_up f_11 h0 (.inr (2, [.ref q1_1, .int pc_1, .ref c1_1, .ref c2_1, .ref c3_1, .ref q5_1, .int z_15, .ref q7_1, .int mc_1])) h0 = .inr (2, [.ref q1_1, .int pc_1, .ref c1_1, .ref c2_1, .ref c3_1, .ref q5_1, .int z_15, .ref q7_1, .int mc_1]) := va_up_self _ _ _
      have eq_19 := (va_up_ne f_11 (.inr (2, [.ref q1_1, .int pc_1, .ref c1_1, .ref c2_1, .ref c3_1, .ref q5_1, .int z_15, .ref q7_1, .int mc_1])) (isr_ne hx0 hh0 (by decide))).trans eq_13
      have eq_20 := (va_up_ne f_11 (.inr (2, [.ref q1_1, .int pc_1, .ref c1_1, .ref c2_1, .ref c3_1, .ref q5_1, .int z_15, .ref q7_1, .int mc_1])) (isr_ne fq5_1 hh0 (by decide))).trans es_f_11
      generalize va_up f_11 h0 (.inr (2, [.ref q1_1, .int pc_1, .ref c1_1, .ref c2_1, .ref c3_1, .ref q5_1, .int z_15, .ref q7_1, .int mc_1])) = f_18 at hP hD hPI es_f_18 eq_19 eq_20
      refine lv_iconst (v := 1) hx hb dX2_addFound_45 (by decide) ?_
      exact W.zret (v := 1) hx hb hr rfl (fun t ht hW => ⟨⟨1, (), rfl, Or.inl rfl, f_18, hPI, ⟨z_15, ⟨q1_1, pc_1, c1_1, c2_1, c3_1, q5_1, q7_1, mc_1, _, es_f_18, fq1_1, fc1_1, fc2_1, fc3_1, fq5_1, rg_17, fq7_1, fmc_1, eq_20, fg2_9, nn_push nnf_1 (by omega) kz_15⟩⟩, by rw [ht]; exact hP, hD⟩, hS.F ht⟩) hS.2.2 dX2_addFound_46
    · have c_6 := mt Int32.lt_iff_toInt_lt.mpr c_6
      refine lv_iconst (v := 0) hx hb dX2_addFound_23 (by decide) ?_
      exact W.zret (v := 0) hx hb hr rfl (fun t ht hW => ⟨⟨0, (), rfl, Or.inr rfl, f, hPI, ⟨fc0, hFN⟩, by rw [ht]; exact hP, hD⟩, hS.F ht⟩) hS.2.2 dX2_addFound_24
  · have c_4 := mt Int32.lt_iff_toInt_lt.mpr c_4
    refine lv_iconst (v := 1) hx hb dX2_addFound_12 (by decide) ?_
    exact W.zret (v := 1) hx hb hr rfl (fun t ht hW => ⟨⟨1, (), rfl, Or.inl rfl, f, hPI, ⟨fc0, hFN⟩, by rw [ht]; exact hP, hD⟩, hS.F ht⟩) hS.2.2 dX2_addFound_13
set_option maxRecDepth 20000 in
theorem in_t_X2_findFrom_X1 : ∀ w ∈ u_ws RX1 TX1 6, w ∈ wsX2_findFrom := by decide +kernel
set_option maxRecDepth 20000 in
theorem in_t_X2_findFrom_X2 : ∀ w ∈ u_ws RX2 TX2 9, w ∈ wsX2_findFrom := by decide +kernel
set_option maxRecDepth 100000 in
set_option maxHeartbeats 4000000 in
theorem t_X2_findFrom (l : Launch) (dC : Nat → ClassId) (dI : Nat → Nat → Nat) (TT : Nat × Nat × Nat) (sz : Nat) (kT kI kJ : ClassId) (K : Nat → Nat) (L : List Nat) (f : Nat → va_E) (hPI : PI kT kI kJ K L f) (h0 : Nat) (hh0 : isr K L 2 h0) (x0 : Nat) (hx0 : isr K L 1 x0) : Met l yX2_findFrom wsX2_findFrom ({ frames := 2, cells := 0, slots := 0, locals := 43 } : Room) (va_Pc [.ref h0, .ref x0] (pr dC dI (va_pl L f) (va_pl L f) [(kT, .object RX1), (kI, .int), (kJ, .long)] sz TT)) (va_Qi (fun (r : Int32) (u : Unit) => r01 r) (fun (_ : Unit) t => ∃ f2 : Nat → va_E, PI kT kI kJ K L f2 ∧ (∃ fc2 : Int32, FN kT K L f2 h0 fc2) ∧ va_P (dC, dI) vwCl (va_pl L f2) t.heap ∧ va_D (va_A (va_pl L f) sz) (va_pl L f2)) (va_A (va_pl L f) sz)) 0 0 (va_A (va_pl L f) sz) := by
  refine Met.ofW (cc := cX2_findFrom) (maxL := 4) (ret := (some .boolean)) (by decide) rfl ?_
  intro p e s m args below meth c s₁ B hml hv
  obtain ⟨rfl, hsz, hP, hK, hD0, hst⟩ := hv
  have hx := B.exec
  have hb := B.bytes
  have hr := B.returns
  have hts := atoms_spec (ws := wsX2_findFrom) B.pre
  have hown : s.vm.findClass RX2 = some m.cls := findClass_of_methodNamed B.named
  have hlocks := B.notSynchronized
  have iX1_ := in_t_X2_findFrom_X1
  have iX2_ := in_t_X2_findFrom_X2
  subst hsz
  have hD := hD0.self (sz := s.heap.size)
  generalize hAe : va_A (va_pl L f) s.heap.size = A at hD hst ⊢
  have hA : ∀ q : Nat, s.heap.size ≤ q → A q := fun q h => by rw [← hAe]; exact Or.inr h
  have hS : va_S A s.heap s.heap [] := va_S.rf
  have hl := lv_entry ([.ref h0, .ref x0]) (n := 4) (Nat.le_of_ble_eq_true rfl)
  rw [lg_entry_eq]
  generalize (lg_sl ([.ref h0, .ref x0]) ++ List.replicate (4 - (lg_sl ([.ref h0, .ref x0])).length) Slot.unset).toArray = ls at hl ⊢
  have hl : lv_has ls 4 [(0, .ref h0), (1, .ref x0)] := hl
  have k0_ : Int32.toInt 0 = 0 := by decide
  have k1_ : Int32.toInt 1 = 1 := by decide
  have k24_ : Int32.toInt 24 = 24 := by decide
  refine W_nameQ (fun Q0 eQ => ?_)
  refine lv_aload_n hx hb dX2_findFrom_0 rfl (lv_at hl 0 rfl) ?_
  obtain ⟨q1_1, pc_1, c1_1, c2_1, c3_1, q5_1, fc_1, q7_1, mc_1, e_1, fq1_1, fc1_1, fc2_1, fc3_1, fq5_1, ffc_1, fq7_1, fmc_1⟩ := hPI.a2 hh0
  obtain ⟨k_1, hk_1⟩ := va_plg hh0.1 e_1
  refine va_get (D := (dC, dI)) (ci := 2) (v := .ref q5_1) (C := RX2) (T := TX2) (N := 9) hx hb hts iX2_ hown hK hP k_1 hk_1 rfl 5 (by decide) (hts (.fieldLink RX2 28 "FieldLeaves" "found" "[LFieldLeaves$Thing;") (by decide +kernel)) (fun _ h9 => h9) rfl dX2_findFrom_1 ?_
  refine lv_iconst (v := 0) hx hb dX2_findFrom_4 (by decide) ?_
  refine lv_aload_n hx hb dX2_findFrom_5 rfl (lv_at hl 1 rfl) ?_
  obtain ⟨g_2, e_2, fg_2⟩ := hPI.a6 fq5_1
  obtain ⟨k_2, hk_2⟩ := va_plg fq5_1.1 e_2
  have h_2 : vp_in 0 24 := (vp_in_iff.mpr (by decide))
  obtain ⟨cn_3, v_3, b_3, m_3, st_3, i_3, e_3, fv_3, fb_3, fm_3, fst_3, fi_3⟩ := hPI.a1 hx0
  obtain ⟨k_3, hk_3⟩ := va_plg hx0.1 e_3
  have hD9 := hD
  refine va_astq hx hb hK hP hD hS k_2 0 k_3 1 hk_2 rfl hk_3 rfl h_2 dX2_findFrom_6 (fun H locs hP hD hS => ?_)
  have fg2_2 := upr_all (k := Int32.toNatClampNeg 0) (o := (some x0)) fg_2 (fun _ h9 => by cases h9; exact hx0)
  have hP : va_P (dC, dI) vwCl (va_pl L (va_up f q5_1 (.inl (kT, 24, .inr (.inr (.inr (.inr (va_up g_2 (Int32.toNatClampNeg 0) (some x0))))))))) H := by rw [← va_pls hD9 fq5_1.1 hk_2 _]; exact hP
  have hD : va_D A (va_pl L (va_up f q5_1 (.inl (kT, 24, .inr (.inr (.inr (.inr (va_up g_2 (Int32.toNatClampNeg 0) (some x0))))))))) := by rw [← va_pls hD9 fq5_1.1 hk_2 _]; exact hD
  have hPI := hPI.put (e := .inl (kT, 24, .inr (.inr (.inr (.inr (va_up g_2 (Int32.toNatClampNeg 0) (some x0))))))) fq5_1 ⟨_, rfl, fg2_2⟩
  have es_f_4 : va_up f q5_1 (.inl (kT, 24, .inr (.inr (.inr (.inr (va_up g_2 (Int32.toNatClampNeg 0) (some x0))))))) q5_1 = .inl (kT, 24, .inr (.inr (.inr (.inr (va_up g_2 (Int32.toNatClampNeg 0) (some x0)))))) := va_up_self _ _ _
  have eq_5 := (va_up_ne f (.inl (kT, 24, .inr (.inr (.inr (.inr (va_up g_2 (Int32.toNatClampNeg 0) (some x0))))))) (isr_ne hh0 fq5_1 (by decide))).trans e_1
  have eq_6 := (va_up_ne f (.inl (kT, 24, .inr (.inr (.inr (.inr (va_up g_2 (Int32.toNatClampNeg 0) (some x0))))))) (isr_ne hx0 fq5_1 (by decide))).trans e_3
  generalize va_up f q5_1 (.inl (kT, 24, .inr (.inr (.inr (.inr (va_up g_2 (Int32.toNatClampNeg 0) (some x0))))))) = f_4 at hP hD hPI es_f_4 eq_5 eq_6
  refine lv_aload_n hx hb dX2_findFrom_7 rfl (lv_at hl 0 rfl) ?_
  refine lv_iconst (v := 1) hx hb dX2_findFrom_8 (by decide) ?_
  obtain ⟨k_7, hk_7⟩ := va_plg hh0.1 eq_5
  have hD9 := hD
  have rg_8 : 0 ≤ Int32.toInt 1 ∧ Int32.toInt 1 ≤ 24 := by constructor <;> omega
  refine va_put (D := (dC, dI)) (ci := 2) (v := .int 1) (ty := .int) (C := RX2) (T := TX2) (N := 9) hx hb hts iX2_ tyX2 tyX2_ok nmX2 hown hK hP hD hS k_7 hk_7 rfl 6 (by decide) (hts (.fieldLink RX2 188 "FieldLeaves" "foundCount" "I") (by decide +kernel)) (fun _ h9 => h9) rfl (by decide +kernel) rfl rfl (Nat.le_of_ble_eq_true rfl) dX2_findFrom_9 (fun H locs hP hD hS => ?_)
  have hP : va_P (dC, dI) vwCl (va_pl L (va_up f_4 h0 (.inr (2, [.ref q1_1, .int pc_1, .ref c1_1, .ref c2_1, .ref c3_1, .ref q5_1, .int 1, .ref q7_1, .int mc_1])))) H := by rw [← va_pls hD9 hh0.1 hk_7 _]; exact hP
  have hD : va_D A (va_pl L (va_up f_4 h0 (.inr (2, [.ref q1_1, .int pc_1, .ref c1_1, .ref c2_1, .ref c3_1, .ref q5_1, .int 1, .ref q7_1, .int mc_1])))) := by rw [← va_pls hD9 hh0.1 hk_7 _]; exact hD
  have hPI := hPI.put (e := .inr (2, [.ref q1_1, .int pc_1, .ref c1_1, .ref c2_1, .ref c3_1, .ref q5_1, .int 1, .ref q7_1, .int mc_1])) hh0 ⟨q1_1, pc_1, c1_1, c2_1, c3_1, q5_1, 1, q7_1, mc_1, rfl, fq1_1, fc1_1, fc2_1, fc3_1, fq5_1, rg_8, fq7_1, fmc_1⟩
  have es_f_9 : va_up f_4 h0 (.inr (2, [.ref q1_1, .int pc_1, .ref c1_1, .ref c2_1, .ref c3_1, .ref q5_1, .int 1, .ref q7_1, .int mc_1])) h0 = .inr (2, [.ref q1_1, .int pc_1, .ref c1_1, .ref c2_1, .ref c3_1, .ref q5_1, .int 1, .ref q7_1, .int mc_1]) := va_up_self _ _ _
  have eq_10 := (va_up_ne f_4 (.inr (2, [.ref q1_1, .int pc_1, .ref c1_1, .ref c2_1, .ref c3_1, .ref q5_1, .int 1, .ref q7_1, .int mc_1])) (isr_ne hx0 hh0 (by decide))).trans eq_6
  have eq_11 := (va_up_ne f_4 (.inr (2, [.ref q1_1, .int pc_1, .ref c1_1, .ref c2_1, .ref c3_1, .ref q5_1, .int 1, .ref q7_1, .int mc_1])) (isr_ne fq5_1 hh0 (by decide))).trans es_f_4
  generalize va_up f_4 h0 (.inr (2, [.ref q1_1, .int pc_1, .ref c1_1, .ref c2_1, .ref c3_1, .ref q5_1, .int 1, .ref q7_1, .int mc_1])) = f_9 at hP hD hPI es_f_9 eq_10 eq_11
  refine lv_iconst (v := 0) hx hb dX2_findFrom_12 (by decide) ?_
  refine lv_istore_n (lv' := [(2, .int 0), (0, .ref h0), (1, .ref x0)]) hx hb dX2_findFrom_13 rfl hl (by decide) rfl (fun ls hl => ?_)
  have loop_14 : ∀ (n : Nat) (i2 : Int32)   (fl : Nat → va_E) (H : Heap) (locs : List Loc) (ls : Array Slot), (0 ≤ i2.toInt ∧ i2.toInt ≤ 24) → (24 - i2.toInt).toNat < n → (∃ fc : Int32, FN kT K L fl h0 fc) → PI kT kI kJ K L fl → va_P (dC, dI) vwCl (va_pl L fl) H → va_D A (va_pl L fl) → va_S A s.heap H locs → lv_has ls 4 [(2, .int i2), (0, .ref h0), (1, .ref x0)] → W p l e (headSpec wsX2_findFrom ({ frames := 2, cells := 0, slots := 0, locals := 43 } : Room)).room s m (([.ref h0, .ref x0] : List Value).toArray) below meth c H locs 0 0 Q0 (F0 m 14 ls []) := by
    intro n
    induction n with
    | zero => intro i2 fl H locs ls  _ h9; exact absurd h9 (Nat.not_lt_zero _)
    | succ n ih_14 =>
      intro i2 fl H locs ls  hI hM hFN hPI hP hD hS hl
      obtain ⟨fc_12, hFN⟩ := hFN
      obtain ⟨q1_13, pc_13, c1_13, c2_13, c3_13, q5_13, q7_13, mc_13, g_13, e_13, fq1_13, fc1_13, fc2_13, fc3_13, fq5_13, ffc_13, fq7_13, fmc_13, eg_13, fg_13, nnf_13⟩ := id hFN
      refine lv_iload_n hx hb dX2_findFrom_14 rfl (lv_at hl 0 rfl) ?_
      refine lv_aload_n hx hb dX2_findFrom_15 rfl (lv_at hl 1 rfl) ?_
      obtain ⟨k_14, hk_14⟩ := va_plg hh0.1 e_13
      refine va_get (D := (dC, dI)) (ci := 2) (v := .int fc_12) (C := RX2) (T := TX2) (N := 9) hx hb hts iX2_ hown hK hP k_14 hk_14 rfl 6 (by decide) (hts (.fieldLink RX2 188 "FieldLeaves" "foundCount" "I") (by decide +kernel)) (fun _ h9 => h9) rfl dX2_findFrom_16 ?_
      refine lv_icmp_ge (tgt := 76) hx hb dX2_findFrom_19 (by decide) (fun c_15 => ?_) (fun c_15 => ?_)
      · have c_15 := Int32.le_iff_toInt_le.mp c_15
        refine lv_iconst (v := 1) hx hb dX2_findFrom_76 (by decide) ?_
        subst eQ
        exact W.zret (v := 1) hx hb hr rfl (fun t ht hW => ⟨⟨1, (), rfl, Or.inl rfl, fl, hPI, ⟨fc_12, hFN⟩, by rw [ht]; exact hP, hD⟩, hS.F ht⟩) hS.2.2 dX2_findFrom_77
      · have c_15 := mt Int32.le_iff_toInt_le.mpr c_15
        refine lv_iload_n hx hb dX2_findFrom_22 rfl (lv_at hl 0 rfl) ?_
        refine lv_bipush (v := 24) hx hb dX2_findFrom_23 (by decide) ?_
        refine lv_icmp_ge (tgt := 76) hx hb dX2_findFrom_25 (by decide) (fun c_16 => ?_) (fun c_16 => ?_)
        · have c_16 := Int32.le_iff_toInt_le.mp c_16
          refine lv_iconst (v := 1) hx hb dX2_findFrom_76 (by decide) ?_
          subst eQ
          exact W.zret (v := 1) hx hb hr rfl (fun t ht hW => ⟨⟨1, (), rfl, Or.inl rfl, fl, hPI, ⟨fc_12, hFN⟩, by rw [ht]; exact hP, hD⟩, hS.F ht⟩) hS.2.2 dX2_findFrom_77
        · have c_16 := mt Int32.le_iff_toInt_le.mpr c_16
          refine lv_aload_n hx hb dX2_findFrom_28 rfl (lv_at hl 1 rfl) ?_
          obtain ⟨k_17, hk_17⟩ := va_plg hh0.1 e_13
          refine va_get (D := (dC, dI)) (ci := 2) (v := .ref q5_13) (C := RX2) (T := TX2) (N := 9) hx hb hts iX2_ hown hK hP k_17 hk_17 rfl 5 (by decide) (hts (.fieldLink RX2 28 "FieldLeaves" "found" "[LFieldLeaves$Thing;") (by decide +kernel)) (fun _ h9 => h9) rfl dX2_findFrom_29 ?_
          refine lv_iload_n hx hb dX2_findFrom_32 rfl (lv_at hl 0 rfl) ?_
          obtain ⟨k_18, hk_18⟩ := va_plg fq5_13.1 eg_13
          have h_18 : vp_in i2 24 := (vp_in_iff.mpr (by constructor <;> omega))
          refine va_aldq hx hb hK hP k_18 0 hk_18 rfl h_18 dX2_findFrom_33 ?_
          have fo_18 := fg_13 _ (vp_lt h_18)
          have nn_18 := nnf_13 (Int32.toNatClampNeg i2) (by rw [clamp_int (by omega)]; omega)
          generalize eo_18 : g_13 (Int32.toNatClampNeg i2) = o_18 at fo_18 nn_18 ⊢
          rcases o_18 with _ | y_19
          · exact absurd rfl nn_18
          · have fy_19 := fo_18 y_19 rfl
            refine W.eq (g2 := F0 m 34 ls [.ref y_19]) rfl ?_
            refine lv_astore_n (lv' := [(3, .ref y_19), (2, .int i2), (0, .ref h0), (1, .ref x0)]) hx hb dX2_findFrom_34 rfl hl (by decide) rfl (fun ls hl => ?_)
            refine lv_aload_n hx hb dX2_findFrom_35 rfl (lv_at hl 2 rfl) ?_
            refine lv_aload_n hx hb dX2_findFrom_36 rfl (lv_at hl 0 rfl) ?_
            obtain ⟨cn_20, v_20, b_20, m_20, st_20, i_20, e_20, fv_20, fb_20, fm_20, fst_20, fi_20⟩ := hPI.a1 fy_19
            obtain ⟨k_20, hk_20⟩ := va_plg fy_19.1 e_20
            refine va_get (D := (dC, dI)) (ci := 1) (v := va_rf b_20) (C := RX1) (T := TX1) (N := 6) hx hb hts iX1_ hown hK hP k_20 hk_20 rfl 2 (by decide) (hts (.fieldLink RX2 114 "FieldLeaves$Thing" "baseLink" "LFieldLeaves$Thing;") (by decide +kernel)) (fun _ h9 => h9) rfl dX2_findFrom_37 ?_
            rcases b_20 with _ | y_21
            · refine W.eq (g2 := F0 m 40 ls [.null, .ref h0]) rfl ?_
              obtain ⟨k_22, hk_22⟩ := va_plg hh0.1 e_13
              refine va_calli (va_runV (b := h0) (As := [.null]) (rest := []) ⟨hx, hb, hml, hown, hts⟩ (t_X2_addFound_null l dC dI TT H.size kT kI kJ K L fl hPI h0 hh0) (cwV 1 hts gX2_findFrom_X2_addFound rfl rfl rfl (by decide +kernel) ⟨Nat.le_of_ble_eq_true rfl, Nat.le_of_ble_eq_true rfl⟩) ⟨pr_blind, va_recv hK hP (ci := 2) rfl hk_22, (pr_S (ws := va_pl L fl) (wA := []) (tys := [(kT, .object RX1), (kI, .int), (kJ, .long)]) hP hK vd_nil hst hS (ro_free hS hA)).2⟩ rfl rfl hl.1 rfl (lv_room (Nat.le_of_ble_eq_true rfl)) dX2_findFrom_40 ⟨Nat.le_of_ble_eq_true rfl, Nat.le_of_ble_eq_true rfl⟩) hS (fun q _ h => (ro_free hS hA) q h) (ro_free hS hA) (fun r_23 u t H1 locs ht hvm hw hB hz1 hk1 hS => ?_)
              have hP := ro_keep hP hk1
              generalize H1 = H at hP hS ⊢
              rcases hw with rfl | rfl
              · refine lv_if_eq (tgt := 68) hx hb dX2_findFrom_43 (by decide) (fun c9 => absurd c9 (by decide)) (fun _ => ?_)
                refine lv_aload_n hx hb dX2_findFrom_46 rfl (lv_at hl 2 rfl) ?_
                refine lv_aload_n hx hb dX2_findFrom_47 rfl (lv_at hl 0 rfl) ?_
                obtain ⟨k_24, hk_24⟩ := va_plg fy_19.1 e_20
                refine va_get (D := (dC, dI)) (ci := 1) (v := va_rf m_20) (C := RX1) (T := TX1) (N := 6) hx hb hts iX1_ hown hK hP k_24 hk_24 rfl 3 (by decide) (hts (.fieldLink RX2 198 "FieldLeaves$Thing" "middleLink" "LFieldLeaves$Thing;") (by decide +kernel)) (fun _ h9 => h9) rfl dX2_findFrom_48 ?_
                rcases m_20 with _ | y_25
                · refine W.eq (g2 := F0 m 51 ls [.null, .ref h0]) rfl ?_
                  obtain ⟨k_26, hk_26⟩ := va_plg hh0.1 e_13
                  refine va_calli (va_runV (b := h0) (As := [.null]) (rest := []) ⟨hx, hb, hml, hown, hts⟩ (t_X2_addFound_null l dC dI TT H.size kT kI kJ K L fl hPI h0 hh0) (cwV 1 hts gX2_findFrom_X2_addFound rfl rfl rfl (by decide +kernel) ⟨Nat.le_of_ble_eq_true rfl, Nat.le_of_ble_eq_true rfl⟩) ⟨pr_blind, va_recv hK hP (ci := 2) rfl hk_26, (pr_S (ws := va_pl L fl) (wA := []) (tys := [(kT, .object RX1), (kI, .int), (kJ, .long)]) hP hK vd_nil hst hS (ro_free hS hA)).2⟩ rfl rfl hl.1 rfl (lv_room (Nat.le_of_ble_eq_true rfl)) dX2_findFrom_51 ⟨Nat.le_of_ble_eq_true rfl, Nat.le_of_ble_eq_true rfl⟩) hS (fun q _ h => (ro_free hS hA) q h) (ro_free hS hA) (fun r_27 u t H1 locs ht hvm hw hB hz1 hk1 hS => ?_)
                  have hP := ro_keep hP hk1
                  generalize H1 = H at hP hS ⊢
                  rcases hw with rfl | rfl
                  · refine lv_if_eq (tgt := 68) hx hb dX2_findFrom_54 (by decide) (fun c9 => absurd c9 (by decide)) (fun _ => ?_)
                    refine lv_aload_n hx hb dX2_findFrom_57 rfl (lv_at hl 2 rfl) ?_
                    refine lv_aload_n hx hb dX2_findFrom_58 rfl (lv_at hl 0 rfl) ?_
                    obtain ⟨k_28, hk_28⟩ := va_plg fy_19.1 e_20
                    refine va_get (D := (dC, dI)) (ci := 1) (v := va_rf st_20) (C := RX1) (T := TX1) (N := 6) hx hb hts iX1_ hown hK hP k_28 hk_28 rfl 4 (by decide) (hts (.fieldLink RX2 201 "FieldLeaves$Thing" "strayBack" "LFieldLeaves$Thing;") (by decide +kernel)) (fun _ h9 => h9) rfl dX2_findFrom_59 ?_
                    rcases st_20 with _ | y_29
                    · refine W.eq (g2 := F0 m 62 ls [.null, .ref h0]) rfl ?_
                      obtain ⟨k_30, hk_30⟩ := va_plg hh0.1 e_13
                      refine va_calli (va_runV (b := h0) (As := [.null]) (rest := []) ⟨hx, hb, hml, hown, hts⟩ (t_X2_addFound_null l dC dI TT H.size kT kI kJ K L fl hPI h0 hh0) (cwV 1 hts gX2_findFrom_X2_addFound rfl rfl rfl (by decide +kernel) ⟨Nat.le_of_ble_eq_true rfl, Nat.le_of_ble_eq_true rfl⟩) ⟨pr_blind, va_recv hK hP (ci := 2) rfl hk_30, (pr_S (ws := va_pl L fl) (wA := []) (tys := [(kT, .object RX1), (kI, .int), (kJ, .long)]) hP hK vd_nil hst hS (ro_free hS hA)).2⟩ rfl rfl hl.1 rfl (lv_room (Nat.le_of_ble_eq_true rfl)) dX2_findFrom_62 ⟨Nat.le_of_ble_eq_true rfl, Nat.le_of_ble_eq_true rfl⟩) hS (fun q _ h => (ro_free hS hA) q h) (ro_free hS hA) (fun r_31 u t H1 locs ht hvm hw hB hz1 hk1 hS => ?_)
                      have hP := ro_keep hP hk1
                      generalize H1 = H at hP hS ⊢
                      rcases hw with rfl | rfl
                      · refine lv_if_ne (tgt := 70) hx hb dX2_findFrom_65 (by decide) (fun _ => ?_) (fun c9 => absurd c9 (by decide))
                        obtain ⟨i_32, ei_32⟩ : ∃ y : Int32, y = i2 + 1 := ⟨_, rfl⟩
                        refine lv_iinc (v := i_32) (lv' := [(2, .int i_32), (3, .ref y_19), (0, .ref h0), (1, .ref x0)]) hx hb dX2_findFrom_70 hl (k := 1) rfl (by rw [ei_32]; rfl) (by decide) rfl (fun ls hl => ?_)
                        have ki_32 := inc_toInt ei_32 (by omega)
                        refine lv_goto (tgt := 14) hx hb dX2_findFrom_73 (by decide) ?_
                        exact ih_14 i_32 fl _ _ _  (by omega) (by omega) ⟨fc_12, hFN⟩ hPI hP hD hS (lv_sub hl [0, 2, 3] rfl)
                      · refine lv_if_ne (tgt := 70) hx hb dX2_findFrom_65 (by decide) (fun c9 => absurd c9 (by decide)) (fun _ => ?_)
                        refine lv_iconst (v := 0) hx hb dX2_findFrom_68 (by decide) ?_
                        subst eQ
                        exact W.zret (v := 0) hx hb hr rfl (fun t ht hW => ⟨⟨0, (), rfl, Or.inr rfl, fl, hPI, ⟨fc_12, hFN⟩, by rw [ht]; exact hP, hD⟩, hS.F ht⟩) hS.2.2 dX2_findFrom_69
                    · have fy_29 := fst_20 y_29 rfl
                      refine W.eq (g2 := F0 m 62 ls [.ref y_29, .ref h0]) rfl ?_
                      have hFc := pl_free hD hS hA
                      obtain ⟨k_33, hk_33⟩ := va_plg hh0.1 e_13
                      refine va_calli (va_runV (b := h0) (As := [.ref y_29]) (rest := []) ⟨hx, hb, hml, hown, hts⟩ (t_X2_addFound l dC dI TT H.size kT kI kJ K L fl hPI h0 hh0 y_29 fy_29 fc_12 hFN) (cwV 1 hts gX2_findFrom_X2_addFound rfl rfl rfl (by decide +kernel) ⟨Nat.le_of_ble_eq_true rfl, Nat.le_of_ble_eq_true rfl⟩) ⟨pr_blind, va_recv hK hP (ci := 2) rfl hk_33, (pr_S (ws := va_pl L fl) (wA := va_pl L fl) (tys := [(kT, .object RX1), (kI, .int), (kJ, .long)]) hP hK (hD.weaken (fun _ _ _ _ => trivial)) hst hS hFc).2⟩ rfl rfl hl.1 rfl (lv_room (Nat.le_of_ble_eq_true rfl)) dX2_findFrom_62 ⟨Nat.le_of_ble_eq_true rfl, Nat.le_of_ble_eq_true rfl⟩) hS (fun q _ h => hFc q h) hFc (fun r_34 u t H1 locs ht hvm hw hB hz1 hk1 hS => ?_)
                      obtain ⟨f_35, hPI, hrel, hP, hD9⟩ := hB
                      rw [ht] at hP
                      have hD := hD9.weaken (fun _ q _ h => hFc q.1 h)
                      generalize H1 = H at hP hS ⊢
                      obtain ⟨fc_36, hFN⟩ := hrel
                      obtain ⟨q1_37, pc_37, c1_37, c2_37, c3_37, q5_37, q7_37, mc_37, g_37, e_37, fq1_37, fc1_37, fc2_37, fc3_37, fq5_37, ffc_37, fq7_37, fmc_37, eg_37, fg_37, nnf_37⟩ := id hFN
                      rcases hw with rfl | rfl
                      · refine lv_if_ne (tgt := 70) hx hb dX2_findFrom_65 (by decide) (fun _ => ?_) (fun c9 => absurd c9 (by decide))
                        obtain ⟨i_38, ei_38⟩ : ∃ y : Int32, y = i2 + 1 := ⟨_, rfl⟩
                        refine lv_iinc (v := i_38) (lv' := [(2, .int i_38), (3, .ref y_19), (0, .ref h0), (1, .ref x0)]) hx hb dX2_findFrom_70 hl (k := 1) rfl (by rw [ei_38]; rfl) (by decide) rfl (fun ls hl => ?_)
                        have ki_38 := inc_toInt ei_38 (by omega)
                        refine lv_goto (tgt := 14) hx hb dX2_findFrom_73 (by decide) ?_
                        exact ih_14 i_38 f_35 _ _ _  (by omega) (by omega) ⟨fc_36, hFN⟩ hPI hP hD hS (lv_sub hl [0, 2, 3] rfl)
                      · refine lv_if_ne (tgt := 70) hx hb dX2_findFrom_65 (by decide) (fun c9 => absurd c9 (by decide)) (fun _ => ?_)
                        refine lv_iconst (v := 0) hx hb dX2_findFrom_68 (by decide) ?_
                        subst eQ
                        exact W.zret (v := 0) hx hb hr rfl (fun t ht hW => ⟨⟨0, (), rfl, Or.inr rfl, f_35, hPI, ⟨fc_36, hFN⟩, by rw [ht]; exact hP, hD⟩, hS.F ht⟩) hS.2.2 dX2_findFrom_69
                  · refine lv_if_eq (tgt := 68) hx hb dX2_findFrom_54 (by decide) (fun _ => ?_) (fun c9 => absurd c9 (by decide))
                    refine lv_iconst (v := 0) hx hb dX2_findFrom_68 (by decide) ?_
                    subst eQ
                    exact W.zret (v := 0) hx hb hr rfl (fun t ht hW => ⟨⟨0, (), rfl, Or.inr rfl, fl, hPI, ⟨fc_12, hFN⟩, by rw [ht]; exact hP, hD⟩, hS.F ht⟩) hS.2.2 dX2_findFrom_69
                · have fy_25 := fm_20 y_25 rfl
                  refine W.eq (g2 := F0 m 51 ls [.ref y_25, .ref h0]) rfl ?_
                  have hFc := pl_free hD hS hA
                  obtain ⟨k_39, hk_39⟩ := va_plg hh0.1 e_13
                  refine va_calli (va_runV (b := h0) (As := [.ref y_25]) (rest := []) ⟨hx, hb, hml, hown, hts⟩ (t_X2_addFound l dC dI TT H.size kT kI kJ K L fl hPI h0 hh0 y_25 fy_25 fc_12 hFN) (cwV 1 hts gX2_findFrom_X2_addFound rfl rfl rfl (by decide +kernel) ⟨Nat.le_of_ble_eq_true rfl, Nat.le_of_ble_eq_true rfl⟩) ⟨pr_blind, va_recv hK hP (ci := 2) rfl hk_39, (pr_S (ws := va_pl L fl) (wA := va_pl L fl) (tys := [(kT, .object RX1), (kI, .int), (kJ, .long)]) hP hK (hD.weaken (fun _ _ _ _ => trivial)) hst hS hFc).2⟩ rfl rfl hl.1 rfl (lv_room (Nat.le_of_ble_eq_true rfl)) dX2_findFrom_51 ⟨Nat.le_of_ble_eq_true rfl, Nat.le_of_ble_eq_true rfl⟩) hS (fun q _ h => hFc q h) hFc (fun r_40 u t H1 locs ht hvm hw hB hz1 hk1 hS => ?_)
                  obtain ⟨f_41, hPI, hrel, hP, hD9⟩ := hB
                  rw [ht] at hP
                  have hD := hD9.weaken (fun _ q _ h => hFc q.1 h)
                  generalize H1 = H at hP hS ⊢
                  obtain ⟨fc_42, hFN⟩ := hrel
                  obtain ⟨q1_43, pc_43, c1_43, c2_43, c3_43, q5_43, q7_43, mc_43, g_43, e_43, fq1_43, fc1_43, fc2_43, fc3_43, fq5_43, ffc_43, fq7_43, fmc_43, eg_43, fg_43, nnf_43⟩ := id hFN
                  rcases hw with rfl | rfl
                  · refine lv_if_eq (tgt := 68) hx hb dX2_findFrom_54 (by decide) (fun c9 => absurd c9 (by decide)) (fun _ => ?_)
                    refine lv_aload_n hx hb dX2_findFrom_57 rfl (lv_at hl 2 rfl) ?_
                    refine lv_aload_n hx hb dX2_findFrom_58 rfl (lv_at hl 0 rfl) ?_
                    obtain ⟨cn_44, v_44, b_44, m_44, st_44, i_44, e_44, fv_44, fb_44, fm_44, fst_44, fi_44⟩ := hPI.a1 fy_19
                    obtain ⟨k_44, hk_44⟩ := va_plg fy_19.1 e_44
                    refine va_get (D := (dC, dI)) (ci := 1) (v := va_rf st_44) (C := RX1) (T := TX1) (N := 6) hx hb hts iX1_ hown hK hP k_44 hk_44 rfl 4 (by decide) (hts (.fieldLink RX2 201 "FieldLeaves$Thing" "strayBack" "LFieldLeaves$Thing;") (by decide +kernel)) (fun _ h9 => h9) rfl dX2_findFrom_59 ?_
                    rcases st_44 with _ | y_45
                    · refine W.eq (g2 := F0 m 62 ls [.null, .ref h0]) rfl ?_
                      obtain ⟨k_46, hk_46⟩ := va_plg hh0.1 e_43
                      refine va_calli (va_runV (b := h0) (As := [.null]) (rest := []) ⟨hx, hb, hml, hown, hts⟩ (t_X2_addFound_null l dC dI TT H.size kT kI kJ K L f_41 hPI h0 hh0) (cwV 1 hts gX2_findFrom_X2_addFound rfl rfl rfl (by decide +kernel) ⟨Nat.le_of_ble_eq_true rfl, Nat.le_of_ble_eq_true rfl⟩) ⟨pr_blind, va_recv hK hP (ci := 2) rfl hk_46, (pr_S (ws := va_pl L f_41) (wA := []) (tys := [(kT, .object RX1), (kI, .int), (kJ, .long)]) hP hK vd_nil hst hS (ro_free hS hA)).2⟩ rfl rfl hl.1 rfl (lv_room (Nat.le_of_ble_eq_true rfl)) dX2_findFrom_62 ⟨Nat.le_of_ble_eq_true rfl, Nat.le_of_ble_eq_true rfl⟩) hS (fun q _ h => (ro_free hS hA) q h) (ro_free hS hA) (fun r_47 u t H1 locs ht hvm hw hB hz1 hk1 hS => ?_)
                      have hP := ro_keep hP hk1
                      generalize H1 = H at hP hS ⊢
                      rcases hw with rfl | rfl
                      · refine lv_if_ne (tgt := 70) hx hb dX2_findFrom_65 (by decide) (fun _ => ?_) (fun c9 => absurd c9 (by decide))
                        obtain ⟨i_48, ei_48⟩ : ∃ y : Int32, y = i2 + 1 := ⟨_, rfl⟩
                        refine lv_iinc (v := i_48) (lv' := [(2, .int i_48), (3, .ref y_19), (0, .ref h0), (1, .ref x0)]) hx hb dX2_findFrom_70 hl (k := 1) rfl (by rw [ei_48]; rfl) (by decide) rfl (fun ls hl => ?_)
                        have ki_48 := inc_toInt ei_48 (by omega)
                        refine lv_goto (tgt := 14) hx hb dX2_findFrom_73 (by decide) ?_
                        exact ih_14 i_48 f_41 _ _ _  (by omega) (by omega) ⟨fc_42, hFN⟩ hPI hP hD hS (lv_sub hl [0, 2, 3] rfl)
                      · refine lv_if_ne (tgt := 70) hx hb dX2_findFrom_65 (by decide) (fun c9 => absurd c9 (by decide)) (fun _ => ?_)
                        refine lv_iconst (v := 0) hx hb dX2_findFrom_68 (by decide) ?_
                        subst eQ
                        exact W.zret (v := 0) hx hb hr rfl (fun t ht hW => ⟨⟨0, (), rfl, Or.inr rfl, f_41, hPI, ⟨fc_42, hFN⟩, by rw [ht]; exact hP, hD⟩, hS.F ht⟩) hS.2.2 dX2_findFrom_69
                    · have fy_45 := fst_44 y_45 rfl
                      refine W.eq (g2 := F0 m 62 ls [.ref y_45, .ref h0]) rfl ?_
                      have hFc := pl_free hD hS hA
                      obtain ⟨k_49, hk_49⟩ := va_plg hh0.1 e_43
                      refine va_calli (va_runV (b := h0) (As := [.ref y_45]) (rest := []) ⟨hx, hb, hml, hown, hts⟩ (t_X2_addFound l dC dI TT H.size kT kI kJ K L f_41 hPI h0 hh0 y_45 fy_45 fc_42 hFN) (cwV 1 hts gX2_findFrom_X2_addFound rfl rfl rfl (by decide +kernel) ⟨Nat.le_of_ble_eq_true rfl, Nat.le_of_ble_eq_true rfl⟩) ⟨pr_blind, va_recv hK hP (ci := 2) rfl hk_49, (pr_S (ws := va_pl L f_41) (wA := va_pl L f_41) (tys := [(kT, .object RX1), (kI, .int), (kJ, .long)]) hP hK (hD.weaken (fun _ _ _ _ => trivial)) hst hS hFc).2⟩ rfl rfl hl.1 rfl (lv_room (Nat.le_of_ble_eq_true rfl)) dX2_findFrom_62 ⟨Nat.le_of_ble_eq_true rfl, Nat.le_of_ble_eq_true rfl⟩) hS (fun q _ h => hFc q h) hFc (fun r_50 u t H1 locs ht hvm hw hB hz1 hk1 hS => ?_)
                      obtain ⟨f_51, hPI, hrel, hP, hD9⟩ := hB
                      rw [ht] at hP
                      have hD := hD9.weaken (fun _ q _ h => hFc q.1 h)
                      generalize H1 = H at hP hS ⊢
                      obtain ⟨fc_52, hFN⟩ := hrel
                      obtain ⟨q1_53, pc_53, c1_53, c2_53, c3_53, q5_53, q7_53, mc_53, g_53, e_53, fq1_53, fc1_53, fc2_53, fc3_53, fq5_53, ffc_53, fq7_53, fmc_53, eg_53, fg_53, nnf_53⟩ := id hFN
                      rcases hw with rfl | rfl
                      · refine lv_if_ne (tgt := 70) hx hb dX2_findFrom_65 (by decide) (fun _ => ?_) (fun c9 => absurd c9 (by decide))
                        obtain ⟨i_54, ei_54⟩ : ∃ y : Int32, y = i2 + 1 := ⟨_, rfl⟩
                        refine lv_iinc (v := i_54) (lv' := [(2, .int i_54), (3, .ref y_19), (0, .ref h0), (1, .ref x0)]) hx hb dX2_findFrom_70 hl (k := 1) rfl (by rw [ei_54]; rfl) (by decide) rfl (fun ls hl => ?_)
                        have ki_54 := inc_toInt ei_54 (by omega)
                        refine lv_goto (tgt := 14) hx hb dX2_findFrom_73 (by decide) ?_
                        exact ih_14 i_54 f_51 _ _ _  (by omega) (by omega) ⟨fc_52, hFN⟩ hPI hP hD hS (lv_sub hl [0, 2, 3] rfl)
                      · refine lv_if_ne (tgt := 70) hx hb dX2_findFrom_65 (by decide) (fun c9 => absurd c9 (by decide)) (fun _ => ?_)
                        refine lv_iconst (v := 0) hx hb dX2_findFrom_68 (by decide) ?_
                        subst eQ
                        exact W.zret (v := 0) hx hb hr rfl (fun t ht hW => ⟨⟨0, (), rfl, Or.inr rfl, f_51, hPI, ⟨fc_52, hFN⟩, by rw [ht]; exact hP, hD⟩, hS.F ht⟩) hS.2.2 dX2_findFrom_69
                  · refine lv_if_eq (tgt := 68) hx hb dX2_findFrom_54 (by decide) (fun _ => ?_) (fun c9 => absurd c9 (by decide))
                    refine lv_iconst (v := 0) hx hb dX2_findFrom_68 (by decide) ?_
                    subst eQ
                    exact W.zret (v := 0) hx hb hr rfl (fun t ht hW => ⟨⟨0, (), rfl, Or.inr rfl, f_41, hPI, ⟨fc_42, hFN⟩, by rw [ht]; exact hP, hD⟩, hS.F ht⟩) hS.2.2 dX2_findFrom_69
              · refine lv_if_eq (tgt := 68) hx hb dX2_findFrom_43 (by decide) (fun _ => ?_) (fun c9 => absurd c9 (by decide))
                refine lv_iconst (v := 0) hx hb dX2_findFrom_68 (by decide) ?_
                subst eQ
                exact W.zret (v := 0) hx hb hr rfl (fun t ht hW => ⟨⟨0, (), rfl, Or.inr rfl, fl, hPI, ⟨fc_12, hFN⟩, by rw [ht]; exact hP, hD⟩, hS.F ht⟩) hS.2.2 dX2_findFrom_69
            · have fy_21 := fb_20 y_21 rfl
              refine W.eq (g2 := F0 m 40 ls [.ref y_21, .ref h0]) rfl ?_
              have hFc := pl_free hD hS hA
              obtain ⟨k_55, hk_55⟩ := va_plg hh0.1 e_13
              refine va_calli (va_runV (b := h0) (As := [.ref y_21]) (rest := []) ⟨hx, hb, hml, hown, hts⟩ (t_X2_addFound l dC dI TT H.size kT kI kJ K L fl hPI h0 hh0 y_21 fy_21 fc_12 hFN) (cwV 1 hts gX2_findFrom_X2_addFound rfl rfl rfl (by decide +kernel) ⟨Nat.le_of_ble_eq_true rfl, Nat.le_of_ble_eq_true rfl⟩) ⟨pr_blind, va_recv hK hP (ci := 2) rfl hk_55, (pr_S (ws := va_pl L fl) (wA := va_pl L fl) (tys := [(kT, .object RX1), (kI, .int), (kJ, .long)]) hP hK (hD.weaken (fun _ _ _ _ => trivial)) hst hS hFc).2⟩ rfl rfl hl.1 rfl (lv_room (Nat.le_of_ble_eq_true rfl)) dX2_findFrom_40 ⟨Nat.le_of_ble_eq_true rfl, Nat.le_of_ble_eq_true rfl⟩) hS (fun q _ h => hFc q h) hFc (fun r_56 u t H1 locs ht hvm hw hB hz1 hk1 hS => ?_)
              obtain ⟨f_57, hPI, hrel, hP, hD9⟩ := hB
              rw [ht] at hP
              have hD := hD9.weaken (fun _ q _ h => hFc q.1 h)
              generalize H1 = H at hP hS ⊢
              obtain ⟨fc_58, hFN⟩ := hrel
              obtain ⟨q1_59, pc_59, c1_59, c2_59, c3_59, q5_59, q7_59, mc_59, g_59, e_59, fq1_59, fc1_59, fc2_59, fc3_59, fq5_59, ffc_59, fq7_59, fmc_59, eg_59, fg_59, nnf_59⟩ := id hFN
              rcases hw with rfl | rfl
              · refine lv_if_eq (tgt := 68) hx hb dX2_findFrom_43 (by decide) (fun c9 => absurd c9 (by decide)) (fun _ => ?_)
                refine lv_aload_n hx hb dX2_findFrom_46 rfl (lv_at hl 2 rfl) ?_
                refine lv_aload_n hx hb dX2_findFrom_47 rfl (lv_at hl 0 rfl) ?_
                obtain ⟨cn_60, v_60, b_60, m_60, st_60, i_60, e_60, fv_60, fb_60, fm_60, fst_60, fi_60⟩ := hPI.a1 fy_19
                obtain ⟨k_60, hk_60⟩ := va_plg fy_19.1 e_60
                refine va_get (D := (dC, dI)) (ci := 1) (v := va_rf m_60) (C := RX1) (T := TX1) (N := 6) hx hb hts iX1_ hown hK hP k_60 hk_60 rfl 3 (by decide) (hts (.fieldLink RX2 198 "FieldLeaves$Thing" "middleLink" "LFieldLeaves$Thing;") (by decide +kernel)) (fun _ h9 => h9) rfl dX2_findFrom_48 ?_
                rcases m_60 with _ | y_61
                · refine W.eq (g2 := F0 m 51 ls [.null, .ref h0]) rfl ?_
                  obtain ⟨k_62, hk_62⟩ := va_plg hh0.1 e_59
                  refine va_calli (va_runV (b := h0) (As := [.null]) (rest := []) ⟨hx, hb, hml, hown, hts⟩ (t_X2_addFound_null l dC dI TT H.size kT kI kJ K L f_57 hPI h0 hh0) (cwV 1 hts gX2_findFrom_X2_addFound rfl rfl rfl (by decide +kernel) ⟨Nat.le_of_ble_eq_true rfl, Nat.le_of_ble_eq_true rfl⟩) ⟨pr_blind, va_recv hK hP (ci := 2) rfl hk_62, (pr_S (ws := va_pl L f_57) (wA := []) (tys := [(kT, .object RX1), (kI, .int), (kJ, .long)]) hP hK vd_nil hst hS (ro_free hS hA)).2⟩ rfl rfl hl.1 rfl (lv_room (Nat.le_of_ble_eq_true rfl)) dX2_findFrom_51 ⟨Nat.le_of_ble_eq_true rfl, Nat.le_of_ble_eq_true rfl⟩) hS (fun q _ h => (ro_free hS hA) q h) (ro_free hS hA) (fun r_63 u t H1 locs ht hvm hw hB hz1 hk1 hS => ?_)
                  have hP := ro_keep hP hk1
                  generalize H1 = H at hP hS ⊢
                  rcases hw with rfl | rfl
                  · refine lv_if_eq (tgt := 68) hx hb dX2_findFrom_54 (by decide) (fun c9 => absurd c9 (by decide)) (fun _ => ?_)
                    refine lv_aload_n hx hb dX2_findFrom_57 rfl (lv_at hl 2 rfl) ?_
                    refine lv_aload_n hx hb dX2_findFrom_58 rfl (lv_at hl 0 rfl) ?_
                    obtain ⟨k_64, hk_64⟩ := va_plg fy_19.1 e_60
                    refine va_get (D := (dC, dI)) (ci := 1) (v := va_rf st_60) (C := RX1) (T := TX1) (N := 6) hx hb hts iX1_ hown hK hP k_64 hk_64 rfl 4 (by decide) (hts (.fieldLink RX2 201 "FieldLeaves$Thing" "strayBack" "LFieldLeaves$Thing;") (by decide +kernel)) (fun _ h9 => h9) rfl dX2_findFrom_59 ?_
                    rcases st_60 with _ | y_65
                    · refine W.eq (g2 := F0 m 62 ls [.null, .ref h0]) rfl ?_
                      obtain ⟨k_66, hk_66⟩ := va_plg hh0.1 e_59
                      refine va_calli (va_runV (b := h0) (As := [.null]) (rest := []) ⟨hx, hb, hml, hown, hts⟩ (t_X2_addFound_null l dC dI TT H.size kT kI kJ K L f_57 hPI h0 hh0) (cwV 1 hts gX2_findFrom_X2_addFound rfl rfl rfl (by decide +kernel) ⟨Nat.le_of_ble_eq_true rfl, Nat.le_of_ble_eq_true rfl⟩) ⟨pr_blind, va_recv hK hP (ci := 2) rfl hk_66, (pr_S (ws := va_pl L f_57) (wA := []) (tys := [(kT, .object RX1), (kI, .int), (kJ, .long)]) hP hK vd_nil hst hS (ro_free hS hA)).2⟩ rfl rfl hl.1 rfl (lv_room (Nat.le_of_ble_eq_true rfl)) dX2_findFrom_62 ⟨Nat.le_of_ble_eq_true rfl, Nat.le_of_ble_eq_true rfl⟩) hS (fun q _ h => (ro_free hS hA) q h) (ro_free hS hA) (fun r_67 u t H1 locs ht hvm hw hB hz1 hk1 hS => ?_)
                      have hP := ro_keep hP hk1
                      generalize H1 = H at hP hS ⊢
                      rcases hw with rfl | rfl
                      · refine lv_if_ne (tgt := 70) hx hb dX2_findFrom_65 (by decide) (fun _ => ?_) (fun c9 => absurd c9 (by decide))
                        obtain ⟨i_68, ei_68⟩ : ∃ y : Int32, y = i2 + 1 := ⟨_, rfl⟩
                        refine lv_iinc (v := i_68) (lv' := [(2, .int i_68), (3, .ref y_19), (0, .ref h0), (1, .ref x0)]) hx hb dX2_findFrom_70 hl (k := 1) rfl (by rw [ei_68]; rfl) (by decide) rfl (fun ls hl => ?_)
                        have ki_68 := inc_toInt ei_68 (by omega)
                        refine lv_goto (tgt := 14) hx hb dX2_findFrom_73 (by decide) ?_
                        exact ih_14 i_68 f_57 _ _ _  (by omega) (by omega) ⟨fc_58, hFN⟩ hPI hP hD hS (lv_sub hl [0, 2, 3] rfl)
                      · refine lv_if_ne (tgt := 70) hx hb dX2_findFrom_65 (by decide) (fun c9 => absurd c9 (by decide)) (fun _ => ?_)
                        refine lv_iconst (v := 0) hx hb dX2_findFrom_68 (by decide) ?_
                        subst eQ
                        exact W.zret (v := 0) hx hb hr rfl (fun t ht hW => ⟨⟨0, (), rfl, Or.inr rfl, f_57, hPI, ⟨fc_58, hFN⟩, by rw [ht]; exact hP, hD⟩, hS.F ht⟩) hS.2.2 dX2_findFrom_69
                    · have fy_65 := fst_60 y_65 rfl
                      refine W.eq (g2 := F0 m 62 ls [.ref y_65, .ref h0]) rfl ?_
                      have hFc := pl_free hD hS hA
                      obtain ⟨k_69, hk_69⟩ := va_plg hh0.1 e_59
                      refine va_calli (va_runV (b := h0) (As := [.ref y_65]) (rest := []) ⟨hx, hb, hml, hown, hts⟩ (t_X2_addFound l dC dI TT H.size kT kI kJ K L f_57 hPI h0 hh0 y_65 fy_65 fc_58 hFN) (cwV 1 hts gX2_findFrom_X2_addFound rfl rfl rfl (by decide +kernel) ⟨Nat.le_of_ble_eq_true rfl, Nat.le_of_ble_eq_true rfl⟩) ⟨pr_blind, va_recv hK hP (ci := 2) rfl hk_69, (pr_S (ws := va_pl L f_57) (wA := va_pl L f_57) (tys := [(kT, .object RX1), (kI, .int), (kJ, .long)]) hP hK (hD.weaken (fun _ _ _ _ => trivial)) hst hS hFc).2⟩ rfl rfl hl.1 rfl (lv_room (Nat.le_of_ble_eq_true rfl)) dX2_findFrom_62 ⟨Nat.le_of_ble_eq_true rfl, Nat.le_of_ble_eq_true rfl⟩) hS (fun q _ h => hFc q h) hFc (fun r_70 u t H1 locs ht hvm hw hB hz1 hk1 hS => ?_)
                      obtain ⟨f_71, hPI, hrel, hP, hD9⟩ := hB
                      rw [ht] at hP
                      have hD := hD9.weaken (fun _ q _ h => hFc q.1 h)
                      generalize H1 = H at hP hS ⊢
                      obtain ⟨fc_72, hFN⟩ := hrel
                      obtain ⟨q1_73, pc_73, c1_73, c2_73, c3_73, q5_73, q7_73, mc_73, g_73, e_73, fq1_73, fc1_73, fc2_73, fc3_73, fq5_73, ffc_73, fq7_73, fmc_73, eg_73, fg_73, nnf_73⟩ := id hFN
                      rcases hw with rfl | rfl
                      · refine lv_if_ne (tgt := 70) hx hb dX2_findFrom_65 (by decide) (fun _ => ?_) (fun c9 => absurd c9 (by decide))
                        obtain ⟨i_74, ei_74⟩ : ∃ y : Int32, y = i2 + 1 := ⟨_, rfl⟩
                        refine lv_iinc (v := i_74) (lv' := [(2, .int i_74), (3, .ref y_19), (0, .ref h0), (1, .ref x0)]) hx hb dX2_findFrom_70 hl (k := 1) rfl (by rw [ei_74]; rfl) (by decide) rfl (fun ls hl => ?_)
                        have ki_74 := inc_toInt ei_74 (by omega)
                        refine lv_goto (tgt := 14) hx hb dX2_findFrom_73 (by decide) ?_
                        exact ih_14 i_74 f_71 _ _ _  (by omega) (by omega) ⟨fc_72, hFN⟩ hPI hP hD hS (lv_sub hl [0, 2, 3] rfl)
                      · refine lv_if_ne (tgt := 70) hx hb dX2_findFrom_65 (by decide) (fun c9 => absurd c9 (by decide)) (fun _ => ?_)
                        refine lv_iconst (v := 0) hx hb dX2_findFrom_68 (by decide) ?_
                        subst eQ
                        exact W.zret (v := 0) hx hb hr rfl (fun t ht hW => ⟨⟨0, (), rfl, Or.inr rfl, f_71, hPI, ⟨fc_72, hFN⟩, by rw [ht]; exact hP, hD⟩, hS.F ht⟩) hS.2.2 dX2_findFrom_69
                  · refine lv_if_eq (tgt := 68) hx hb dX2_findFrom_54 (by decide) (fun _ => ?_) (fun c9 => absurd c9 (by decide))
                    refine lv_iconst (v := 0) hx hb dX2_findFrom_68 (by decide) ?_
                    subst eQ
                    exact W.zret (v := 0) hx hb hr rfl (fun t ht hW => ⟨⟨0, (), rfl, Or.inr rfl, f_57, hPI, ⟨fc_58, hFN⟩, by rw [ht]; exact hP, hD⟩, hS.F ht⟩) hS.2.2 dX2_findFrom_69
                · have fy_61 := fm_60 y_61 rfl
                  refine W.eq (g2 := F0 m 51 ls [.ref y_61, .ref h0]) rfl ?_
                  have hFc := pl_free hD hS hA
                  obtain ⟨k_75, hk_75⟩ := va_plg hh0.1 e_59
                  refine va_calli (va_runV (b := h0) (As := [.ref y_61]) (rest := []) ⟨hx, hb, hml, hown, hts⟩ (t_X2_addFound l dC dI TT H.size kT kI kJ K L f_57 hPI h0 hh0 y_61 fy_61 fc_58 hFN) (cwV 1 hts gX2_findFrom_X2_addFound rfl rfl rfl (by decide +kernel) ⟨Nat.le_of_ble_eq_true rfl, Nat.le_of_ble_eq_true rfl⟩) ⟨pr_blind, va_recv hK hP (ci := 2) rfl hk_75, (pr_S (ws := va_pl L f_57) (wA := va_pl L f_57) (tys := [(kT, .object RX1), (kI, .int), (kJ, .long)]) hP hK (hD.weaken (fun _ _ _ _ => trivial)) hst hS hFc).2⟩ rfl rfl hl.1 rfl (lv_room (Nat.le_of_ble_eq_true rfl)) dX2_findFrom_51 ⟨Nat.le_of_ble_eq_true rfl, Nat.le_of_ble_eq_true rfl⟩) hS (fun q _ h => hFc q h) hFc (fun r_76 u t H1 locs ht hvm hw hB hz1 hk1 hS => ?_)
                  obtain ⟨f_77, hPI, hrel, hP, hD9⟩ := hB
                  rw [ht] at hP
                  have hD := hD9.weaken (fun _ q _ h => hFc q.1 h)
                  generalize H1 = H at hP hS ⊢
                  obtain ⟨fc_78, hFN⟩ := hrel
                  obtain ⟨q1_79, pc_79, c1_79, c2_79, c3_79, q5_79, q7_79, mc_79, g_79, e_79, fq1_79, fc1_79, fc2_79, fc3_79, fq5_79, ffc_79, fq7_79, fmc_79, eg_79, fg_79, nnf_79⟩ := id hFN
                  rcases hw with rfl | rfl
                  · refine lv_if_eq (tgt := 68) hx hb dX2_findFrom_54 (by decide) (fun c9 => absurd c9 (by decide)) (fun _ => ?_)
                    refine lv_aload_n hx hb dX2_findFrom_57 rfl (lv_at hl 2 rfl) ?_
                    refine lv_aload_n hx hb dX2_findFrom_58 rfl (lv_at hl 0 rfl) ?_
                    obtain ⟨cn_80, v_80, b_80, m_80, st_80, i_80, e_80, fv_80, fb_80, fm_80, fst_80, fi_80⟩ := hPI.a1 fy_19
                    obtain ⟨k_80, hk_80⟩ := va_plg fy_19.1 e_80
                    refine va_get (D := (dC, dI)) (ci := 1) (v := va_rf st_80) (C := RX1) (T := TX1) (N := 6) hx hb hts iX1_ hown hK hP k_80 hk_80 rfl 4 (by decide) (hts (.fieldLink RX2 201 "FieldLeaves$Thing" "strayBack" "LFieldLeaves$Thing;") (by decide +kernel)) (fun _ h9 => h9) rfl dX2_findFrom_59 ?_
                    rcases st_80 with _ | y_81
                    · refine W.eq (g2 := F0 m 62 ls [.null, .ref h0]) rfl ?_
                      obtain ⟨k_82, hk_82⟩ := va_plg hh0.1 e_79
                      refine va_calli (va_runV (b := h0) (As := [.null]) (rest := []) ⟨hx, hb, hml, hown, hts⟩ (t_X2_addFound_null l dC dI TT H.size kT kI kJ K L f_77 hPI h0 hh0) (cwV 1 hts gX2_findFrom_X2_addFound rfl rfl rfl (by decide +kernel) ⟨Nat.le_of_ble_eq_true rfl, Nat.le_of_ble_eq_true rfl⟩) ⟨pr_blind, va_recv hK hP (ci := 2) rfl hk_82, (pr_S (ws := va_pl L f_77) (wA := []) (tys := [(kT, .object RX1), (kI, .int), (kJ, .long)]) hP hK vd_nil hst hS (ro_free hS hA)).2⟩ rfl rfl hl.1 rfl (lv_room (Nat.le_of_ble_eq_true rfl)) dX2_findFrom_62 ⟨Nat.le_of_ble_eq_true rfl, Nat.le_of_ble_eq_true rfl⟩) hS (fun q _ h => (ro_free hS hA) q h) (ro_free hS hA) (fun r_83 u t H1 locs ht hvm hw hB hz1 hk1 hS => ?_)
                      have hP := ro_keep hP hk1
                      generalize H1 = H at hP hS ⊢
                      rcases hw with rfl | rfl
                      · refine lv_if_ne (tgt := 70) hx hb dX2_findFrom_65 (by decide) (fun _ => ?_) (fun c9 => absurd c9 (by decide))
                        obtain ⟨i_84, ei_84⟩ : ∃ y : Int32, y = i2 + 1 := ⟨_, rfl⟩
                        refine lv_iinc (v := i_84) (lv' := [(2, .int i_84), (3, .ref y_19), (0, .ref h0), (1, .ref x0)]) hx hb dX2_findFrom_70 hl (k := 1) rfl (by rw [ei_84]; rfl) (by decide) rfl (fun ls hl => ?_)
                        have ki_84 := inc_toInt ei_84 (by omega)
                        refine lv_goto (tgt := 14) hx hb dX2_findFrom_73 (by decide) ?_
                        exact ih_14 i_84 f_77 _ _ _  (by omega) (by omega) ⟨fc_78, hFN⟩ hPI hP hD hS (lv_sub hl [0, 2, 3] rfl)
                      · refine lv_if_ne (tgt := 70) hx hb dX2_findFrom_65 (by decide) (fun c9 => absurd c9 (by decide)) (fun _ => ?_)
                        refine lv_iconst (v := 0) hx hb dX2_findFrom_68 (by decide) ?_
                        subst eQ
                        exact W.zret (v := 0) hx hb hr rfl (fun t ht hW => ⟨⟨0, (), rfl, Or.inr rfl, f_77, hPI, ⟨fc_78, hFN⟩, by rw [ht]; exact hP, hD⟩, hS.F ht⟩) hS.2.2 dX2_findFrom_69
                    · have fy_81 := fst_80 y_81 rfl
                      refine W.eq (g2 := F0 m 62 ls [.ref y_81, .ref h0]) rfl ?_
                      have hFc := pl_free hD hS hA
                      obtain ⟨k_85, hk_85⟩ := va_plg hh0.1 e_79
                      refine va_calli (va_runV (b := h0) (As := [.ref y_81]) (rest := []) ⟨hx, hb, hml, hown, hts⟩ (t_X2_addFound l dC dI TT H.size kT kI kJ K L f_77 hPI h0 hh0 y_81 fy_81 fc_78 hFN) (cwV 1 hts gX2_findFrom_X2_addFound rfl rfl rfl (by decide +kernel) ⟨Nat.le_of_ble_eq_true rfl, Nat.le_of_ble_eq_true rfl⟩) ⟨pr_blind, va_recv hK hP (ci := 2) rfl hk_85, (pr_S (ws := va_pl L f_77) (wA := va_pl L f_77) (tys := [(kT, .object RX1), (kI, .int), (kJ, .long)]) hP hK (hD.weaken (fun _ _ _ _ => trivial)) hst hS hFc).2⟩ rfl rfl hl.1 rfl (lv_room (Nat.le_of_ble_eq_true rfl)) dX2_findFrom_62 ⟨Nat.le_of_ble_eq_true rfl, Nat.le_of_ble_eq_true rfl⟩) hS (fun q _ h => hFc q h) hFc (fun r_86 u t H1 locs ht hvm hw hB hz1 hk1 hS => ?_)
                      obtain ⟨f_87, hPI, hrel, hP, hD9⟩ := hB
                      rw [ht] at hP
                      have hD := hD9.weaken (fun _ q _ h => hFc q.1 h)
                      generalize H1 = H at hP hS ⊢
                      obtain ⟨fc_88, hFN⟩ := hrel
                      obtain ⟨q1_89, pc_89, c1_89, c2_89, c3_89, q5_89, q7_89, mc_89, g_89, e_89, fq1_89, fc1_89, fc2_89, fc3_89, fq5_89, ffc_89, fq7_89, fmc_89, eg_89, fg_89, nnf_89⟩ := id hFN
                      rcases hw with rfl | rfl
                      · refine lv_if_ne (tgt := 70) hx hb dX2_findFrom_65 (by decide) (fun _ => ?_) (fun c9 => absurd c9 (by decide))
                        obtain ⟨i_90, ei_90⟩ : ∃ y : Int32, y = i2 + 1 := ⟨_, rfl⟩
                        refine lv_iinc (v := i_90) (lv' := [(2, .int i_90), (3, .ref y_19), (0, .ref h0), (1, .ref x0)]) hx hb dX2_findFrom_70 hl (k := 1) rfl (by rw [ei_90]; rfl) (by decide) rfl (fun ls hl => ?_)
                        have ki_90 := inc_toInt ei_90 (by omega)
                        refine lv_goto (tgt := 14) hx hb dX2_findFrom_73 (by decide) ?_
                        exact ih_14 i_90 f_87 _ _ _  (by omega) (by omega) ⟨fc_88, hFN⟩ hPI hP hD hS (lv_sub hl [0, 2, 3] rfl)
                      · refine lv_if_ne (tgt := 70) hx hb dX2_findFrom_65 (by decide) (fun c9 => absurd c9 (by decide)) (fun _ => ?_)
                        refine lv_iconst (v := 0) hx hb dX2_findFrom_68 (by decide) ?_
                        subst eQ
                        exact W.zret (v := 0) hx hb hr rfl (fun t ht hW => ⟨⟨0, (), rfl, Or.inr rfl, f_87, hPI, ⟨fc_88, hFN⟩, by rw [ht]; exact hP, hD⟩, hS.F ht⟩) hS.2.2 dX2_findFrom_69
                  · refine lv_if_eq (tgt := 68) hx hb dX2_findFrom_54 (by decide) (fun _ => ?_) (fun c9 => absurd c9 (by decide))
                    refine lv_iconst (v := 0) hx hb dX2_findFrom_68 (by decide) ?_
                    subst eQ
                    exact W.zret (v := 0) hx hb hr rfl (fun t ht hW => ⟨⟨0, (), rfl, Or.inr rfl, f_77, hPI, ⟨fc_78, hFN⟩, by rw [ht]; exact hP, hD⟩, hS.F ht⟩) hS.2.2 dX2_findFrom_69
              · refine lv_if_eq (tgt := 68) hx hb dX2_findFrom_43 (by decide) (fun _ => ?_) (fun c9 => absurd c9 (by decide))
                refine lv_iconst (v := 0) hx hb dX2_findFrom_68 (by decide) ?_
                subst eQ
                exact W.zret (v := 0) hx hb hr rfl (fun t ht hW => ⟨⟨0, (), rfl, Or.inr rfl, f_57, hPI, ⟨fc_58, hFN⟩, by rw [ht]; exact hP, hD⟩, hS.F ht⟩) hS.2.2 dX2_findFrom_69
  exact loop_14 25 0 f_9 _ _ _  (by omega) (by omega) ⟨1, ⟨q1_1, pc_1, c1_1, c2_1, c3_1, q5_1, q7_1, mc_1, _, es_f_9, fq1_1, fc1_1, fc2_1, fc3_1, fq5_1, rg_8, fq7_1, fmc_1, eq_11, fg2_2, nn_one⟩⟩ hPI hP hD hS hl
