set_option maxRecDepth 20000 in
theorem in_u_X2_numberOf_X2 : ∀ w ∈ u_ws RX2 TX2 9, w ∈ wsX2_numberOf := by decide +kernel
set_option maxRecDepth 100000 in
set_option maxHeartbeats 4000000 in
theorem u_X2_numberOf (l : Launch) (dC : Nat → ClassId) (dI : Nat → Nat → Nat) (TT : Nat × Nat × Nat) (sz : Nat) (kT kI kJ : ClassId) (K : Nat → Nat) (L : List Nat) (f : Nat → va_E) (hPI : PI kT kI kJ K L f) (h0 : Nat) (hh0 : isr K L 2 h0) (x0 : Nat) (hx0 : isr K L 1 x0) (l0 : List Nat) (hFS : FS f h0 l0) : Met l yX2_numberOf wsX2_numberOf ({ frames := 0, cells := 0, slots := 0, locals := 0 } : Room) (va_Pc [.ref h0, .ref x0] (pr dC dI (va_pl L f) [] [(kT, .object RX1), (kI, .int), (kJ, .long)] sz TT)) (va_Qi (fun (r : Int32) (u : Unit) => r = nbr (-1) l0 x0) (fun _ _ => True) (va_A [] sz)) 0 0 (va_A [] sz) := by
  refine Met.ofW (cc := cX2_numberOf) (maxL := 3) (ret := (some .int)) (by decide) rfl ?_
  intro p e s m args below meth c s₁ B hml hv
  obtain ⟨rfl, hsz, hP, hK, hD0, hst⟩ := hv
  have hx := B.exec
  have hb := B.bytes
  have hr := B.returns
  have hts := atoms_spec (ws := wsX2_numberOf) B.pre
  have hown : s.vm.findClass RX2 = some m.cls := findClass_of_methodNamed B.named
  have hlocks := B.notSynchronized
  have iX2_ := in_u_X2_numberOf_X2
  subst hsz
  have hD := hD0.self (sz := s.heap.size)
  generalize hAe : va_A [] s.heap.size = A at hD hst ⊢
  have hA : ∀ q : Nat, s.heap.size ≤ q → A q := fun q h => by rw [← hAe]; exact Or.inr h
  have hS : va_S A s.heap s.heap [] := va_S.rf
  have hl := lv_entry ([.ref h0, .ref x0]) (n := 3) (Nat.le_of_ble_eq_true rfl)
  rw [lg_entry_eq]
  generalize (lg_sl ([.ref h0, .ref x0]) ++ List.replicate (3 - (lg_sl ([.ref h0, .ref x0])).length) Slot.unset).toArray = ls at hl ⊢
  have hl : lv_has ls 3 [(0, .ref h0), (1, .ref x0)] := hl
  have km1_ : Int32.toInt (-1) = -1 := by decide
  have k0_ : Int32.toInt 0 = 0 := by decide
  refine W_nameQ (fun Q0 eQ => ?_)
  obtain ⟨q1_1, pc_1, c1_1, c2_1, c3_1, q5_1, fc_1, q7_1, mc_1, e_1, fq1_1, fc1_1, fc2_1, fc3_1, fq5_1, ffc_1, fq7_1, fmc_1⟩ := hPI.a2 hh0
  obtain ⟨k_1, hk_1⟩ := va_plg hh0.1 e_1
  obtain ⟨g_2, e_2, fg_2⟩ := hPI.a6 fq5_1
  obtain ⟨k_2, hk_2⟩ := va_plg fq5_1.1 e_2
  have hFu_3 := FS.un hFS e_1 e_2
  have nn_hFu_3 := fs_nn hFu_3
  refine lv_iconst (v := 0) hx hb dX2_numberOf_0 (by decide) ?_
  refine lv_istore_n (lv' := [(2, .int 0), (0, .ref h0), (1, .ref x0)]) hx hb dX2_numberOf_1 rfl hl (by decide) rfl (fun ls hl => ?_)
  have loop_2 : ∀ (n : Nat) (i2 : Int32)   (H : Heap) (locs : List Loc) (ls : Array Slot), ((0 ≤ i2.toInt ∧ i2.toInt ≤ 24) ∧ ∀ j : Nat, (j : Int) < i2.toInt → ¬ l0[j]? = some x0) → (24 - i2.toInt).toNat < n → va_P (dC, dI) vwCl (va_pl L f) H → va_S A s.heap H locs → lv_has ls 3 [(2, .int i2), (0, .ref h0), (1, .ref x0)] → W p l e (headSpec wsX2_numberOf ({ frames := 0, cells := 0, slots := 0, locals := 0 } : Room)).room s m (([.ref h0, .ref x0] : List Value).toArray) below meth c H locs 0 0 Q0 (F0 m 2 ls []) := by
    intro n
    induction n with
    | zero => intro i2 H locs ls  _ h9; exact absurd h9 (Nat.not_lt_zero _)
    | succ n ih_2 =>
      intro i2 H locs ls  hI hM hP hS hl
      refine lv_iload_n hx hb dX2_numberOf_2 rfl (lv_at hl 0 rfl) ?_
      refine lv_aload_n hx hb dX2_numberOf_3 rfl (lv_at hl 1 rfl) ?_
      obtain ⟨k_4, hk_4⟩ := va_plg hh0.1 e_1
      refine va_get (D := (dC, dI)) (ci := 2) (v := .int fc_1) (C := RX2) (T := TX2) (N := 9) hx hb hts iX2_ hown hK hP k_4 hk_4 rfl 6 (by decide) (hts (.fieldLink RX2 188 "FieldLeaves" "foundCount" "I") (by decide +kernel)) (fun _ h9 => h9) rfl dX2_numberOf_4 ?_
      refine lv_icmp_ge (tgt := 28) hx hb dX2_numberOf_7 (by decide) (fun c_5 => ?_) (fun c_5 => ?_)
      · have c_5 := Int32.le_iff_toInt_le.mp c_5
        refine lv_iconst (v := (-1)) hx hb dX2_numberOf_28 (by decide) ?_
        subst eQ
        exact W.iret (v := (-1)) hx hb hr (fun t ht hW => ⟨⟨(-1), (), rfl, fs_miss hFu_3 hI.2 (by omega), trivial⟩, hS.F ht⟩) hS.2.2 dX2_numberOf_29
      · have c_5 := mt Int32.le_iff_toInt_le.mpr c_5
        refine lv_aload_n hx hb dX2_numberOf_10 rfl (lv_at hl 1 rfl) ?_
        obtain ⟨k_6, hk_6⟩ := va_plg hh0.1 e_1
        refine va_get (D := (dC, dI)) (ci := 2) (v := .ref q5_1) (C := RX2) (T := TX2) (N := 9) hx hb hts iX2_ hown hK hP k_6 hk_6 rfl 5 (by decide) (hts (.fieldLink RX2 28 "FieldLeaves" "found" "[LFieldLeaves$Thing;") (by decide +kernel)) (fun _ h9 => h9) rfl dX2_numberOf_11 ?_
        refine lv_iload_n hx hb dX2_numberOf_14 rfl (lv_at hl 0 rfl) ?_
        obtain ⟨k_7, hk_7⟩ := va_plg fq5_1.1 e_2
        have h_7 : vp_in i2 24 := (vp_in_iff.mpr (by constructor <;> omega))
        refine va_aldq hx hb hK hP k_7 0 hk_7 rfl h_7 dX2_numberOf_15 ?_
        have fo_7 := fg_2 _ (vp_lt h_7)
        have nn_7 := nn_hFu_3 (Int32.toNatClampNeg i2) (by rw [clamp_int (by omega)]; omega)
        generalize eo_7 : g_2 (Int32.toNatClampNeg i2) = o_7 at fo_7 nn_7 ⊢
        rcases o_7 with _ | y_8
        · exact absurd rfl nn_7
        · have fy_8 := fo_7 y_8 rfl
          refine W.eq (g2 := F0 m 16 ls [.ref y_8]) rfl ?_
          refine lv_aload_n hx hb dX2_numberOf_16 rfl (lv_at hl 2 rfl) ?_
          refine W.eq (g2 := F0 m 17 ls (va_rf (some x0) :: va_rf (some y_8) :: [])) rfl ?_
          refine lv_acmp_ne (tgt := 22) hx hb dX2_numberOf_17 (by decide) (fun ca_9 => ?_) (fun ca_9 => ?_)
          · obtain ⟨i_10, ei_10⟩ : ∃ y : Int32, y = i2 + 1 := ⟨_, rfl⟩
            refine lv_iinc (v := i_10) (lv' := [(2, .int i_10), (0, .ref h0), (1, .ref x0)]) hx hb dX2_numberOf_22 hl (k := 0) rfl (by rw [ei_10]; rfl) (by decide) rfl (fun ls hl => ?_)
            have ki_10 := inc_toInt ei_10 (by omega)
            refine lv_goto (tgt := 2) hx hb dX2_numberOf_25 (by decide) ?_
            exact ih_2 i_10 _ _ _  ⟨by omega, fs_no hFu_3 hI.2 (by omega) eo_7 ca_9 ki_10⟩ (by omega) hP hS (lv_sub hl [0, 1, 2] rfl)
          · refine lv_iload_n hx hb dX2_numberOf_20 rfl (lv_at hl 0 rfl) ?_
            subst eQ
            exact W.iret (v := i2) hx hb hr (fun t ht hW => ⟨⟨i2, (), rfl, fs_hit hFu_3 hI.2 (by omega) (by omega) eo_7 ca_9, trivial⟩, hS.F ht⟩) hS.2.2 dX2_numberOf_21
  exact loop_2 25 0 _ _ _  ⟨by omega, fun j hj => by omega⟩ (by omega) hP hS hl
set_option maxRecDepth 100000 in
set_option maxHeartbeats 4000000 in
theorem u_X2_addFound_null (l : Launch) (dC : Nat → ClassId) (dI : Nat → Nat → Nat) (TT : Nat × Nat × Nat) (sz : Nat) (kT kI kJ : ClassId) (K : Nat → Nat) (L : List Nat) (f : Nat → va_E) (hPI : PI kT kI kJ K L f) (h0 : Nat) (hh0 : isr K L 2 h0) : Met l yX2_addFound wsX2_addFound ({ frames := 0, cells := 0, slots := 0, locals := 0 } : Room) (va_Pc [.ref h0, .null] (pr dC dI (va_pl L f) [] [(kT, .object RX1), (kI, .int), (kJ, .long)] sz TT)) (va_Qi (fun (r : Int32) (u : Unit) => r = 1) (fun _ _ => True) (va_A [] sz)) 0 0 (va_A [] sz) := by
  refine Met.ofW (cc := cX2_addFound) (maxL := 2) (ret := (some .boolean)) (by decide) rfl ?_
  intro p e s m args below meth c s₁ B hml hv
  obtain ⟨rfl, hsz, hP, hK, hD0, hst⟩ := hv
  have hx := B.exec
  have hb := B.bytes
  have hr := B.returns
  have hts := atoms_spec (ws := wsX2_addFound) B.pre
  have hown : s.vm.findClass RX2 = some m.cls := findClass_of_methodNamed B.named
  have hlocks := B.notSynchronized
  subst hsz
  have hD := hD0.self (sz := s.heap.size)
  generalize hAe : va_A [] s.heap.size = A at hD hst ⊢
  have hA : ∀ q : Nat, s.heap.size ≤ q → A q := fun q h => by rw [← hAe]; exact Or.inr h
  have hS : va_S A s.heap s.heap [] := va_S.rf
  have hl := lv_entry ([.ref h0, .null]) (n := 2) (Nat.le_of_ble_eq_true rfl)
  rw [lg_entry_eq]
  generalize (lg_sl ([.ref h0, .null]) ++ List.replicate (2 - (lg_sl ([.ref h0, .null])).length) Slot.unset).toArray = ls at hl ⊢
  have hl : lv_has ls 2 [(0, .ref h0), (1, .null)] := hl
  have k1_ : Int32.toInt 1 = 1 := by decide
  refine lv_aload_nN hx hb dX2_addFound_0 rfl (lv_at hl 1 rfl) ?_
  refine lv_ifnullN (tgt := 12) hx hb dX2_addFound_1 (by decide) ?_
  refine lv_iconst (v := 1) hx hb dX2_addFound_12 (by decide) ?_
  exact W.zret (v := 1) hx hb hr rfl (fun t ht hW => ⟨⟨1, (), rfl, rfl, trivial⟩, hS.F ht⟩) hS.2.2 dX2_addFound_13
set_option maxRecDepth 20000 in
theorem in_u_X2_addFound_X2 : ∀ w ∈ u_ws RX2 TX2 9, w ∈ wsX2_addFound := by decide +kernel
set_option maxRecDepth 100000 in
set_option maxHeartbeats 4000000 in
theorem u_X2_addFound (l : Launch) (dC : Nat → ClassId) (dI : Nat → Nat → Nat) (TT : Nat × Nat × Nat) (sz : Nat) (kT kI kJ : ClassId) (K : Nat → Nat) (L : List Nat) (f : Nat → va_E) (hPI : PI kT kI kJ K L f) (h0 : Nat) (hh0 : isr K L 2 h0) (x0 : Nat) (hx0 : isr K L 1 x0) (l0 : List Nat) (hFS : FS f h0 l0) (hl24 : l0.length ≤ 24) : Met l yX2_addFound wsX2_addFound ({ frames := 1, cells := 0, slots := 0, locals := 22 } : Room) (va_Pc [.ref h0, .ref x0] (pr dC dI (va_pl L f) (va_pl L f) [(kT, .object RX1), (kI, .int), (kJ, .long)] sz TT)) (va_Qi (fun (r : Int32) (u : Unit) => bo r ((ad l0 (some x0)).length ≤ 24)) (fun (_ : Unit) t => ∃ f2 : Nat → va_E, PI kT kI kJ K L f2 ∧ (FF K L h0 f f2 ∧ ((ad l0 (some x0)).length ≤ 24 → FS f2 h0 (ad l0 (some x0)))) ∧ va_P (dC, dI) vwCl (va_pl L f2) t.heap ∧ va_D (va_A (va_pl L f) sz) (va_pl L f2)) (va_A (va_pl L f) sz)) 0 0 (va_A (va_pl L f) sz) := by
  refine Met.ofW (cc := cX2_addFound) (maxL := 2) (ret := (some .boolean)) (by decide) rfl ?_
  intro p e s m args below meth c s₁ B hml hv
  obtain ⟨rfl, hsz, hP, hK, hD0, hst⟩ := hv
  have hx := B.exec
  have hb := B.bytes
  have hr := B.returns
  have hts := atoms_spec (ws := wsX2_addFound) B.pre
  have hown : s.vm.findClass RX2 = some m.cls := findClass_of_methodNamed B.named
  have hlocks := B.notSynchronized
  have iX2_ := in_u_X2_addFound_X2
  subst hsz
  have hD := hD0.self (sz := s.heap.size)
  generalize hAe : va_A (va_pl L f) s.heap.size = A at hD hst ⊢
  have hA : ∀ q : Nat, s.heap.size ≤ q → A q := fun q h => by rw [← hAe]; exact Or.inr h
  have hS : va_S A s.heap s.heap [] := va_S.rf
  have hl := lv_entry ([.ref h0, .ref x0]) (n := 2) (Nat.le_of_ble_eq_true rfl)
  rw [lg_entry_eq]
  generalize (lg_sl ([.ref h0, .ref x0]) ++ List.replicate (2 - (lg_sl ([.ref h0, .ref x0])).length) Slot.unset).toArray = ls at hl ⊢
  have hl : lv_has ls 2 [(0, .ref h0), (1, .ref x0)] := hl
  have k0_ : Int32.toInt 0 = 0 := by decide
  have k1_ : Int32.toInt 1 = 1 := by decide
  have k24_ : Int32.toInt 24 = 24 := by decide
  have hfr : FR (sK [2, 6]) K L f f := FR.rf
  obtain ⟨q1_1, pc_1, c1_1, c2_1, c3_1, q5_1, fc_1, q7_1, mc_1, e_1, fq1_1, fc1_1, fc2_1, fc3_1, fq5_1, ffc_1, fq7_1, fmc_1⟩ := hPI.a2 hh0
  obtain ⟨k_1, hk_1⟩ := va_plg hh0.1 e_1
  obtain ⟨g_2, e_2, fg_2⟩ := hPI.a6 fq5_1
  obtain ⟨k_2, hk_2⟩ := va_plg fq5_1.1 e_2
  have hFu_3 := FS.un hFS e_1 e_2
  have nn_hFu_3 := fs_nn hFu_3
  refine lv_aload_n hx hb dX2_addFound_0 rfl (lv_at hl 1 rfl) ?_
  refine lv_ifnull hx hb dX2_addFound_1 ?_
  refine lv_aload_n hx hb dX2_addFound_4 rfl (lv_at hl 0 rfl) ?_
  refine lv_aload_n hx hb dX2_addFound_5 rfl (lv_at hl 1 rfl) ?_
  obtain ⟨k_4, hk_4⟩ := va_plg hh0.1 e_1
  refine va_calli (va_runV (b := h0) (As := [.ref x0]) (rest := []) ⟨hx, hb, hml, hown, hts⟩ (u_X2_numberOf l dC dI TT s.heap.size kT kI kJ K L f hPI h0 hh0 x0 hx0 l0 hFS) (cwV 1 hts gX2_addFound_X2_numberOf rfl rfl rfl (by decide +kernel) ⟨Nat.le_of_ble_eq_true rfl, Nat.le_of_ble_eq_true rfl⟩) ⟨pr_blind, va_recv hK hP (ci := 2) rfl hk_4, (pr_S (ws := va_pl L f) (wA := []) (tys := [(kT, .object RX1), (kI, .int), (kJ, .long)]) hP hK vd_nil hst hS (ro_free hS hA)).2⟩ rfl rfl hl.1 rfl (lv_room (Nat.le_of_ble_eq_true rfl)) dX2_addFound_6 ⟨Nat.le_of_ble_eq_true rfl, Nat.le_of_ble_eq_true rfl⟩) hS (fun q _ h => (ro_free hS hA) q h) (ro_free hS hA) (fun r_5 u t H1 locs ht hvm hw hB hz1 hk1 hS => ?_)
  have hP := ro_keep hP hk1
  generalize H1 = H at hP hS ⊢
  have hq_6 := hw
  refine lv_if_lt (tgt := 14) hx hb dX2_addFound_9 (by decide) (fun c_7 => ?_) (fun c_7 => ?_)
  · have c_7 := Int32.lt_iff_toInt_lt.mp c_7
    refine lv_aload_n hx hb dX2_addFound_14 rfl (lv_at hl 0 rfl) ?_
    obtain ⟨k_8, hk_8⟩ := va_plg hh0.1 e_1
    refine va_get (D := (dC, dI)) (ci := 2) (v := .int fc_1) (C := RX2) (T := TX2) (N := 9) hx hb hts iX2_ hown hK hP k_8 hk_8 rfl 6 (by decide) (hts (.fieldLink RX2 188 "FieldLeaves" "foundCount" "I") (by decide +kernel)) (fun _ h9 => h9) rfl dX2_addFound_15 ?_
    refine lv_bipush (v := 24) hx hb dX2_addFound_18 (by decide) ?_
    refine lv_icmp_lt (tgt := 25) hx hb dX2_addFound_20 (by decide) (fun c_9 => ?_) (fun c_9 => ?_)
    · have c_9 := Int32.lt_iff_toInt_lt.mp c_9
      refine lv_aload_n hx hb dX2_addFound_25 rfl (lv_at hl 0 rfl) ?_
      obtain ⟨k_10, hk_10⟩ := va_plg hh0.1 e_1
      refine va_get (D := (dC, dI)) (ci := 2) (v := .ref q5_1) (C := RX2) (T := TX2) (N := 9) hx hb hts iX2_ hown hK hP k_10 hk_10 rfl 5 (by decide) (hts (.fieldLink RX2 28 "FieldLeaves" "found" "[LFieldLeaves$Thing;") (by decide +kernel)) (fun _ h9 => h9) rfl dX2_addFound_26 ?_
      refine lv_aload_n hx hb dX2_addFound_29 rfl (lv_at hl 0 rfl) ?_
      obtain ⟨k_11, hk_11⟩ := va_plg hh0.1 e_1
      refine va_get (D := (dC, dI)) (ci := 2) (v := .int fc_1) (C := RX2) (T := TX2) (N := 9) hx hb hts iX2_ hown hK hP k_11 hk_11 rfl 6 (by decide) (hts (.fieldLink RX2 188 "FieldLeaves" "foundCount" "I") (by decide +kernel)) (fun _ h9 => h9) rfl dX2_addFound_30 ?_
      refine lv_aload_n hx hb dX2_addFound_33 rfl (lv_at hl 1 rfl) ?_
      obtain ⟨k_12, hk_12⟩ := va_plg fq5_1.1 e_2
      have h_12 : vp_in fc_1 24 := (vp_in_iff.mpr (by constructor <;> omega))
      obtain ⟨cn_13, v_13, b_13, m_13, st_13, i_13, e_13, fv_13, fb_13, fm_13, fst_13, fi_13⟩ := hPI.a1 hx0
      obtain ⟨k_13, hk_13⟩ := va_plg hx0.1 e_13
      have hD9 := hD
      refine va_astq hx hb hK hP hD hS k_12 0 k_13 1 hk_12 rfl hk_13 rfl h_12 dX2_addFound_34 (fun H locs hP hD hS => ?_)
      have fg2_12 := upr_all (k := Int32.toNatClampNeg fc_1) (o := (some x0)) fg_2 (fun _ h9 => by cases h9; exact hx0)
      have hP : va_P (dC, dI) vwCl (va_pl L (va_up f q5_1 (.inl (kT, 24, .inr (.inr (.inr (.inr (va_up g_2 (Int32.toNatClampNeg fc_1) (some x0))))))))) H := by rw [← va_pls hD9 fq5_1.1 hk_12 _]; exact hP
      have hD : va_D A (va_pl L (va_up f q5_1 (.inl (kT, 24, .inr (.inr (.inr (.inr (va_up g_2 (Int32.toNatClampNeg fc_1) (some x0))))))))) := by rw [← va_pls hD9 fq5_1.1 hk_12 _]; exact hD
      have hPI := hPI.put (e := .inl (kT, 24, .inr (.inr (.inr (.inr (va_up g_2 (Int32.toNatClampNeg fc_1) (some x0))))))) fq5_1 ⟨_, rfl, fg2_12⟩
      have es_f_14 : va_up f q5_1 (.inl (kT, 24, .inr (.inr (.inr (.inr (va_up g_2 (Int32.toNatClampNeg fc_1) (some x0))))))) q5_1 = .inl (kT, 24, .inr (.inr (.inr (.inr (va_up g_2 (Int32.toNatClampNeg fc_1) (some x0)))))) := va_up_self _ _ _
      have eq_15 := (va_up_ne f (.inl (kT, 24, .inr (.inr (.inr (.inr (va_up g_2 (Int32.toNatClampNeg fc_1) (some x0))))))) (isr_ne hh0 fq5_1 (by decide))).trans e_1
      have eq_16 := (va_up_ne f (.inl (kT, 24, .inr (.inr (.inr (.inr (va_up g_2 (Int32.toNatClampNeg fc_1) (some x0))))))) (isr_ne hx0 fq5_1 (by decide))).trans e_13
      have hfr := fr_up (S := (sK [2, 6])) (e := .inl (kT, 24, .inr (.inr (.inr (.inr (va_up g_2 (Int32.toNatClampNeg fc_1) (some x0))))))) hfr fq5_1 (by decide)
      generalize hg_f_14 : va_up f q5_1 (.inl (kT, 24, .inr (.inr (.inr (.inr (va_up g_2 (Int32.toNatClampNeg fc_1) (some x0))))))) = f_14 at hP hD hPI es_f_14 eq_15 eq_16 hfr
      refine lv_aload_n hx hb dX2_addFound_35 rfl (lv_at hl 0 rfl) ?_
      refine lv_dup hx hb dX2_addFound_36 rfl ?_
      obtain ⟨k_17, hk_17⟩ := va_plg hh0.1 eq_15
      refine va_get (D := (dC, dI)) (ci := 2) (v := .int fc_1) (C := RX2) (T := TX2) (N := 9) hx hb hts iX2_ hown hK hP k_17 hk_17 rfl 6 (by decide) (hts (.fieldLink RX2 188 "FieldLeaves" "foundCount" "I") (by decide +kernel)) (fun _ h9 => h9) rfl dX2_addFound_37 ?_
      refine lv_iconst (v := 1) hx hb dX2_addFound_40 (by decide) ?_
      refine lv_iadd hx hb dX2_addFound_41 ?_
      refine lv_topi (fun z_18 ez_18 => ?_)
      have kz_18 := inc_toInt ez_18 (by omega)
      obtain ⟨k_19, hk_19⟩ := va_plg hh0.1 eq_15
      have hD9 := hD
      have rg_20 : 0 ≤ Int32.toInt z_18 ∧ Int32.toInt z_18 ≤ 24 := by constructor <;> omega
      refine va_put (D := (dC, dI)) (ci := 2) (v := .int z_18) (ty := .int) (C := RX2) (T := TX2) (N := 9) hx hb hts iX2_ tyX2 tyX2_ok nmX2 hown hK hP hD hS k_19 hk_19 rfl 6 (by decide) (hts (.fieldLink RX2 188 "FieldLeaves" "foundCount" "I") (by decide +kernel)) (fun _ h9 => h9) rfl (by decide +kernel) rfl rfl (Nat.le_of_ble_eq_true rfl) dX2_addFound_42 (fun H locs hP hD hS => ?_)
      have hP : va_P (dC, dI) vwCl (va_pl L (va_up f_14 h0 (.inr (2, [.ref q1_1, .int pc_1, .ref c1_1, .ref c2_1, .ref c3_1, .ref q5_1, .int z_18, .ref q7_1, .int mc_1])))) H := by rw [← va_pls hD9 hh0.1 hk_19 _]; exact hP
      have hD : va_D A (va_pl L (va_up f_14 h0 (.inr (2, [.ref q1_1, .int pc_1, .ref c1_1, .ref c2_1, .ref c3_1, .ref q5_1, .int z_18, .ref q7_1, .int mc_1])))) := by rw [← va_pls hD9 hh0.1 hk_19 _]; exact hD
      have hPI := hPI.put (e := .inr (2, [.ref q1_1, .int pc_1, .ref c1_1, .ref c2_1, .ref c3_1, .ref q5_1, .int z_18, .ref q7_1, .int mc_1])) hh0 ⟨q1_1, pc_1, c1_1, c2_1, c3_1, q5_1, z_18, q7_1, mc_1, rfl, fq1_1, fc1_1, fc2_1, fc3_1, fq5_1, rg_20, fq7_1, fmc_1⟩
      have es_f_21 : va_up f_14 h0 (.inr (2, [.ref q1_1, .int pc_1, .ref c1_1, .ref c2_1, .ref c3_1, .ref q5_1, .int z_18, .ref q7_1, .int mc_1])) h0 = .inr (2, [.ref q1_1, .int pc_1, .ref c1_1, .ref c2_1, .ref c3_1, .ref q5_1, .int z_18, .ref q7_1, .int mc_1]) := va_up_self _ _ _
      have eq_22 := (va_up_ne f_14 (.inr (2, [.ref q1_1, .int pc_1, .ref c1_1, .ref c2_1, .ref c3_1, .ref q5_1, .int z_18, .ref q7_1, .int mc_1])) (isr_ne hx0 hh0 (by decide))).trans eq_16
      have eq_23 := (va_up_ne f_14 (.inr (2, [.ref q1_1, .int pc_1, .ref c1_1, .ref c2_1, .ref c3_1, .ref q5_1, .int z_18, .ref q7_1, .int mc_1])) (isr_ne fq5_1 hh0 (by decide))).trans es_f_14
      have hfr := fr_up (S := (sK [2, 6])) (e := .inr (2, [.ref q1_1, .int pc_1, .ref c1_1, .ref c2_1, .ref c3_1, .ref q5_1, .int z_18, .ref q7_1, .int mc_1])) hfr hh0 (by decide)
      generalize hg_f_21 : va_up f_14 h0 (.inr (2, [.ref q1_1, .int pc_1, .ref c1_1, .ref c2_1, .ref c3_1, .ref q5_1, .int z_18, .ref q7_1, .int mc_1])) = f_21 at hP hD hPI es_f_21 eq_22 eq_23 hfr
      refine lv_iconst (v := 1) hx hb dX2_addFound_45 (by decide) ?_
      exact W.zret (v := 1) hx hb hr rfl (fun t ht hW => ⟨⟨1, (), rfl, Or.inl ⟨rfl, by rw [ad_new (fun h9 => absurd ((nbr_in (no := -1) hl24 (by decide)).mpr h9) (by rw [← hq_6]; omega)), List.length_append]; have h8 := hFu_3.1; simp; omega⟩, f_21, hPI, ⟨⟨hfr, (by unfold PHK; rw [es_f_21, e_1]; exact ⟨rfl, rfl, rfl, rfl, rfl, rfl, rfl, rfl⟩)⟩, fun _ => by rw [ad_new (fun h9 => absurd ((nbr_in (no := -1) hl24 (by decide)).mpr h9) (by rw [← hq_6]; omega))]; exact FS.mk es_f_21 eq_23 (fs_push hFu_3 kz_18).1 (fs_push hFu_3 kz_18).2⟩, by rw [ht]; exact hP, hD⟩, hS.F ht⟩) hS.2.2 dX2_addFound_46
    · have c_9 := mt Int32.lt_iff_toInt_lt.mpr c_9
      refine lv_iconst (v := 0) hx hb dX2_addFound_23 (by decide) ?_
      exact W.zret (v := 0) hx hb hr rfl (fun t ht hW => ⟨⟨0, (), rfl, Or.inr ⟨rfl, by rw [ad_new (fun h9 => absurd ((nbr_in (no := -1) hl24 (by decide)).mpr h9) (by rw [← hq_6]; omega)), List.length_append]; have h8 := hFu_3.1; simp; omega⟩, f, hPI, ⟨FF.rf, fun h7 => absurd h7 (by rw [ad_new (fun h9 => absurd ((nbr_in (no := -1) hl24 (by decide)).mpr h9) (by rw [← hq_6]; omega)), List.length_append]; have h8 := hFu_3.1; simp; omega)⟩, by rw [ht]; exact hP, hD⟩, hS.F ht⟩) hS.2.2 dX2_addFound_24
  · have c_7 := mt Int32.lt_iff_toInt_lt.mpr c_7
    refine lv_iconst (v := 1) hx hb dX2_addFound_12 (by decide) ?_
    exact W.zret (v := 1) hx hb hr rfl (fun t ht hW => ⟨⟨1, (), rfl, Or.inl ⟨rfl, by rw [ad_old ((nbr_in (no := -1) hl24 (by decide)).mp (by rw [← hq_6]; omega))]; exact hl24⟩, f, hPI, ⟨FF.rf, fun _ => by rw [ad_old ((nbr_in (no := -1) hl24 (by decide)).mp (by rw [← hq_6]; omega))]; exact hFS⟩, by rw [ht]; exact hP, hD⟩, hS.F ht⟩) hS.2.2 dX2_addFound_13
set_option maxRecDepth 20000 in
theorem in_u_X2_findFrom_X1 : ∀ w ∈ u_ws RX1 TX1 6, w ∈ wsX2_findFrom := by decide +kernel
set_option maxRecDepth 20000 in
theorem in_u_X2_findFrom_X2 : ∀ w ∈ u_ws RX2 TX2 9, w ∈ wsX2_findFrom := by decide +kernel
set_option maxRecDepth 100000 in
set_option maxHeartbeats 4000000 in
theorem u_X2_findFrom (l : Launch) (dC : Nat → ClassId) (dI : Nat → Nat → Nat) (TT : Nat × Nat × Nat) (sz : Nat) (kT kI kJ : ClassId) (K : Nat → Nat) (L : List Nat) (f : Nat → va_E) (hPI : PI kT kI kJ K L f) (h0 : Nat) (hh0 : isr K L 2 h0) (x0 : Nat) (hx0 : isr K L 1 x0) : Met l yX2_findFrom wsX2_findFrom ({ frames := 2, cells := 0, slots := 0, locals := 43 } : Room) (va_Pc [.ref h0, .ref x0] (pr dC dI (va_pl L f) (va_pl L f) [(kT, .object RX1), (kI, .int), (kJ, .long)] sz TT)) (va_Qi (fun (r : Int32) (u : Unit) => bo r ((fd (g_lk f) 25 0 [x0]).isSome = true)) (fun (_ : Unit) t => ∃ f2 : Nat → va_E, PI kT kI kJ K L f2 ∧ (FF K L h0 f f2 ∧ ∀ l, fd (g_lk f) 25 0 [x0] = some l → FS f2 h0 l ∧ l.length ≤ 24 ∧ (∀ t ∈ l, isr K L 1 t)) ∧ va_P (dC, dI) vwCl (va_pl L f2) t.heap ∧ va_D (va_A (va_pl L f) sz) (va_pl L f2)) (va_A (va_pl L f) sz)) 0 0 (va_A (va_pl L f) sz) := by
  refine Met.ofW (cc := cX2_findFrom) (maxL := 4) (ret := (some .boolean)) (by decide) rfl ?_
  intro p e s m args below meth c s₁ B hml hv
  obtain ⟨rfl, hsz, hP, hK, hD0, hst⟩ := hv
  have hx := B.exec
  have hb := B.bytes
  have hr := B.returns
  have hts := atoms_spec (ws := wsX2_findFrom) B.pre
  have hown : s.vm.findClass RX2 = some m.cls := findClass_of_methodNamed B.named
  have hlocks := B.notSynchronized
  have iX1_ := in_u_X2_findFrom_X1
  have iX2_ := in_u_X2_findFrom_X2
  subst hsz
  have hD := hD0.self (sz := s.heap.size)
  generalize hAe : va_A (va_pl L f) s.heap.size = A at hD hst ⊢
  have hA : ∀ q : Nat, s.heap.size ≤ q → A q := fun q h => by rw [← hAe]; exact Or.inr h
  have hS : va_S A s.heap s.heap [] := va_S.rf
  have hl := lv_entry ([.ref h0, .ref x0]) (n := 4) (Nat.le_of_ble_eq_true rfl)
  rw [lg_entry_eq]
  generalize (lg_sl ([.ref h0, .ref x0]) ++ List.replicate (4 - (lg_sl ([.ref h0, .ref x0])).length) Slot.unset).toArray = ls at hl ⊢
  have hl : lv_has ls 4 [(0, .ref h0), (1, .ref x0)] := hl
  have k0_ : Int32.toInt 0 = 0 := by decide
  have k1_ : Int32.toInt 1 = 1 := by decide
  have k24_ : Int32.toInt 24 = 24 := by decide
  have hfr : FR (sK [2, 6]) K L f f := FR.rf
  refine W_nameQ (fun Q0 eQ => ?_)
  refine lv_aload_n hx hb dX2_findFrom_0 rfl (lv_at hl 0 rfl) ?_
  obtain ⟨q1_1, pc_1, c1_1, c2_1, c3_1, q5_1, fc_1, q7_1, mc_1, e_1, fq1_1, fc1_1, fc2_1, fc3_1, fq5_1, ffc_1, fq7_1, fmc_1⟩ := hPI.a2 hh0
  obtain ⟨k_1, hk_1⟩ := va_plg hh0.1 e_1
  refine va_get (D := (dC, dI)) (ci := 2) (v := .ref q5_1) (C := RX2) (T := TX2) (N := 9) hx hb hts iX2_ hown hK hP k_1 hk_1 rfl 5 (by decide) (hts (.fieldLink RX2 28 "FieldLeaves" "found" "[LFieldLeaves$Thing;") (by decide +kernel)) (fun _ h9 => h9) rfl dX2_findFrom_1 ?_
  refine lv_iconst (v := 0) hx hb dX2_findFrom_4 (by decide) ?_
  refine lv_aload_n hx hb dX2_findFrom_5 rfl (lv_at hl 1 rfl) ?_
  obtain ⟨g_2, e_2, fg_2⟩ := hPI.a6 fq5_1
  obtain ⟨k_2, hk_2⟩ := va_plg fq5_1.1 e_2
  have h_2 : vp_in 0 24 := (vp_in_iff.mpr (by decide))
  obtain ⟨cn_3, v_3, b_3, m_3, st_3, i_3, e_3, fv_3, fb_3, fm_3, fst_3, fi_3⟩ := hPI.a1 hx0
  obtain ⟨k_3, hk_3⟩ := va_plg hx0.1 e_3
  have hD9 := hD
  refine va_astq hx hb hK hP hD hS k_2 0 k_3 1 hk_2 rfl hk_3 rfl h_2 dX2_findFrom_6 (fun H locs hP hD hS => ?_)
  have fg2_2 := upr_all (k := Int32.toNatClampNeg 0) (o := (some x0)) fg_2 (fun _ h9 => by cases h9; exact hx0)
  have hP : va_P (dC, dI) vwCl (va_pl L (va_up f q5_1 (.inl (kT, 24, .inr (.inr (.inr (.inr (va_up g_2 (Int32.toNatClampNeg 0) (some x0))))))))) H := by rw [← va_pls hD9 fq5_1.1 hk_2 _]; exact hP
  have hD : va_D A (va_pl L (va_up f q5_1 (.inl (kT, 24, .inr (.inr (.inr (.inr (va_up g_2 (Int32.toNatClampNeg 0) (some x0))))))))) := by rw [← va_pls hD9 fq5_1.1 hk_2 _]; exact hD
  have hPI := hPI.put (e := .inl (kT, 24, .inr (.inr (.inr (.inr (va_up g_2 (Int32.toNatClampNeg 0) (some x0))))))) fq5_1 ⟨_, rfl, fg2_2⟩
  have es_f_4 : va_up f q5_1 (.inl (kT, 24, .inr (.inr (.inr (.inr (va_up g_2 (Int32.toNatClampNeg 0) (some x0))))))) q5_1 = .inl (kT, 24, .inr (.inr (.inr (.inr (va_up g_2 (Int32.toNatClampNeg 0) (some x0)))))) := va_up_self _ _ _
  have eq_5 := (va_up_ne f (.inl (kT, 24, .inr (.inr (.inr (.inr (va_up g_2 (Int32.toNatClampNeg 0) (some x0))))))) (isr_ne hh0 fq5_1 (by decide))).trans e_1
  have eq_6 := (va_up_ne f (.inl (kT, 24, .inr (.inr (.inr (.inr (va_up g_2 (Int32.toNatClampNeg 0) (some x0))))))) (isr_ne hx0 fq5_1 (by decide))).trans e_3
  have hfr := fr_up (S := (sK [2, 6])) (e := .inl (kT, 24, .inr (.inr (.inr (.inr (va_up g_2 (Int32.toNatClampNeg 0) (some x0))))))) hfr fq5_1 (by decide)
  generalize hg_f_4 : va_up f q5_1 (.inl (kT, 24, .inr (.inr (.inr (.inr (va_up g_2 (Int32.toNatClampNeg 0) (some x0))))))) = f_4 at hP hD hPI es_f_4 eq_5 eq_6 hfr
  refine lv_aload_n hx hb dX2_findFrom_7 rfl (lv_at hl 0 rfl) ?_
  refine lv_iconst (v := 1) hx hb dX2_findFrom_8 (by decide) ?_
  obtain ⟨k_7, hk_7⟩ := va_plg hh0.1 eq_5
  have hD9 := hD
  have rg_8 : 0 ≤ Int32.toInt 1 ∧ Int32.toInt 1 ≤ 24 := by constructor <;> omega
  refine va_put (D := (dC, dI)) (ci := 2) (v := .int 1) (ty := .int) (C := RX2) (T := TX2) (N := 9) hx hb hts iX2_ tyX2 tyX2_ok nmX2 hown hK hP hD hS k_7 hk_7 rfl 6 (by decide) (hts (.fieldLink RX2 188 "FieldLeaves" "foundCount" "I") (by decide +kernel)) (fun _ h9 => h9) rfl (by decide +kernel) rfl rfl (Nat.le_of_ble_eq_true rfl) dX2_findFrom_9 (fun H locs hP hD hS => ?_)
  have hP : va_P (dC, dI) vwCl (va_pl L (va_up f_4 h0 (.inr (2, [.ref q1_1, .int pc_1, .ref c1_1, .ref c2_1, .ref c3_1, .ref q5_1, .int 1, .ref q7_1, .int mc_1])))) H := by rw [← va_pls hD9 hh0.1 hk_7 _]; exact hP
  have hD : va_D A (va_pl L (va_up f_4 h0 (.inr (2, [.ref q1_1, .int pc_1, .ref c1_1, .ref c2_1, .ref c3_1, .ref q5_1, .int 1, .ref q7_1, .int mc_1])))) := by rw [← va_pls hD9 hh0.1 hk_7 _]; exact hD
  have hPI := hPI.put (e := .inr (2, [.ref q1_1, .int pc_1, .ref c1_1, .ref c2_1, .ref c3_1, .ref q5_1, .int 1, .ref q7_1, .int mc_1])) hh0 ⟨q1_1, pc_1, c1_1, c2_1, c3_1, q5_1, 1, q7_1, mc_1, rfl, fq1_1, fc1_1, fc2_1, fc3_1, fq5_1, rg_8, fq7_1, fmc_1⟩
  have es_f_9 : va_up f_4 h0 (.inr (2, [.ref q1_1, .int pc_1, .ref c1_1, .ref c2_1, .ref c3_1, .ref q5_1, .int 1, .ref q7_1, .int mc_1])) h0 = .inr (2, [.ref q1_1, .int pc_1, .ref c1_1, .ref c2_1, .ref c3_1, .ref q5_1, .int 1, .ref q7_1, .int mc_1]) := va_up_self _ _ _
  have eq_10 := (va_up_ne f_4 (.inr (2, [.ref q1_1, .int pc_1, .ref c1_1, .ref c2_1, .ref c3_1, .ref q5_1, .int 1, .ref q7_1, .int mc_1])) (isr_ne hx0 hh0 (by decide))).trans eq_6
  have eq_11 := (va_up_ne f_4 (.inr (2, [.ref q1_1, .int pc_1, .ref c1_1, .ref c2_1, .ref c3_1, .ref q5_1, .int 1, .ref q7_1, .int mc_1])) (isr_ne fq5_1 hh0 (by decide))).trans es_f_4
  have hfr := fr_up (S := (sK [2, 6])) (e := .inr (2, [.ref q1_1, .int pc_1, .ref c1_1, .ref c2_1, .ref c3_1, .ref q5_1, .int 1, .ref q7_1, .int mc_1])) hfr hh0 (by decide)
  generalize hg_f_9 : va_up f_4 h0 (.inr (2, [.ref q1_1, .int pc_1, .ref c1_1, .ref c2_1, .ref c3_1, .ref q5_1, .int 1, .ref q7_1, .int mc_1])) = f_9 at hP hD hPI es_f_9 eq_10 eq_11 hfr
  refine lv_iconst (v := 0) hx hb dX2_findFrom_12 (by decide) ?_
  refine lv_istore_n (lv' := [(2, .int 0), (0, .ref h0), (1, .ref x0)]) hx hb dX2_findFrom_13 rfl hl (by decide) rfl (fun ls hl => ?_)
  have loop_14 : ∀ (n : Nat) (i2 : Int32)   (fl : Nat → va_E) (H : Heap) (locs : List Loc) (ls : Array Slot), (0 ≤ i2.toInt ∧ i2.toInt ≤ 24) → (24 - i2.toInt).toNat < n → (∃ l : List Nat, (FF K L h0 f fl ∧ FS fl h0 l) ∧ (l.length ≤ 24 ∧ (∀ t ∈ l, isr K L 1 t)) ∧ fd (g_lk f) (25 - i2.toInt).toNat i2.toInt.toNat l = fd (g_lk f) 25 0 [x0]) → PI kT kI kJ K L fl → va_P (dC, dI) vwCl (va_pl L fl) H → va_D A (va_pl L fl) → va_S A s.heap H locs → lv_has ls 4 [(2, .int i2), (0, .ref h0), (1, .ref x0)] → W p l e (headSpec wsX2_findFrom ({ frames := 2, cells := 0, slots := 0, locals := 43 } : Room)).room s m (([.ref h0, .ref x0] : List Value).toArray) below meth c H locs 0 0 Q0 (F0 m 14 ls []) := by
    intro n
    induction n with
    | zero => intro i2 fl H locs ls  _ h9; exact absurd h9 (Nat.not_lt_zero _)
    | succ n ih_14 =>
      intro i2 fl H locs ls  hI hM hFN hPI hP hD hS hl
      obtain ⟨lc, ⟨hFF, hFS⟩, ⟨hl24, hall⟩, hfd⟩ := hFN
      obtain ⟨q1_12, pc_12, c1_12, c2_12, c3_12, q5_12, fc_12, q7_12, mc_12, e_12, fq1_12, fc1_12, fc2_12, fc3_12, fq5_12, ffc_12, fq7_12, fmc_12⟩ := hPI.a2 hh0
      obtain ⟨k_12, hk_12⟩ := va_plg hh0.1 e_12
      obtain ⟨g_13, e_13, fg_13⟩ := hPI.a6 fq5_12
      obtain ⟨k_13, hk_13⟩ := va_plg fq5_12.1 e_13
      have hFu_14 := FS.un hFS e_12 e_13
      have nn_hFu_14 := fs_nn hFu_14
      refine lv_iload_n hx hb dX2_findFrom_14 rfl (lv_at hl 0 rfl) ?_
      refine lv_aload_n hx hb dX2_findFrom_15 rfl (lv_at hl 1 rfl) ?_
      obtain ⟨k_15, hk_15⟩ := va_plg hh0.1 e_12
      refine va_get (D := (dC, dI)) (ci := 2) (v := .int fc_12) (C := RX2) (T := TX2) (N := 9) hx hb hts iX2_ hown hK hP k_15 hk_15 rfl 6 (by decide) (hts (.fieldLink RX2 188 "FieldLeaves" "foundCount" "I") (by decide +kernel)) (fun _ h9 => h9) rfl dX2_findFrom_16 ?_
      refine lv_icmp_ge (tgt := 76) hx hb dX2_findFrom_19 (by decide) (fun c_16 => ?_) (fun c_16 => ?_)
      · have c_16 := Int32.le_iff_toInt_le.mp c_16
        refine lv_iconst (v := 1) hx hb dX2_findFrom_76 (by decide) ?_
        subst eQ
        exact W.zret (v := 1) hx hb hr rfl (fun t ht hW => ⟨⟨1, (), rfl, Or.inl ⟨rfl, by rw [(hfd.symm.trans (fd_end (by have h8 := hFu_14.1; omega)))]; rfl⟩, fl, hPI, ⟨hFF, fun l h9 => by rw [(hfd.symm.trans (fd_end (by have h8 := hFu_14.1; omega)))] at h9; cases h9; exact ⟨hFS, hl24, hall⟩⟩, by rw [ht]; exact hP, hD⟩, hS.F ht⟩) hS.2.2 dX2_findFrom_77
      · have c_16 := mt Int32.le_iff_toInt_le.mpr c_16
        refine lv_iload_n hx hb dX2_findFrom_22 rfl (lv_at hl 0 rfl) ?_
        refine lv_bipush (v := 24) hx hb dX2_findFrom_23 (by decide) ?_
        refine lv_icmp_ge (tgt := 76) hx hb dX2_findFrom_25 (by decide) (fun c_17 => ?_) (fun c_17 => ?_)
        · have c_17 := Int32.le_iff_toInt_le.mp c_17
          refine lv_iconst (v := 1) hx hb dX2_findFrom_76 (by decide) ?_
          subst eQ
          exact W.zret (v := 1) hx hb hr rfl (fun t ht hW => ⟨⟨1, (), rfl, Or.inl ⟨rfl, by rw [(hfd.symm.trans (fd_end (by have h8 := hFu_14.1; omega)))]; rfl⟩, fl, hPI, ⟨hFF, fun l h9 => by rw [(hfd.symm.trans (fd_end (by have h8 := hFu_14.1; omega)))] at h9; cases h9; exact ⟨hFS, hl24, hall⟩⟩, by rw [ht]; exact hP, hD⟩, hS.F ht⟩) hS.2.2 dX2_findFrom_77
        · have c_17 := mt Int32.le_iff_toInt_le.mpr c_17
          refine lv_aload_n hx hb dX2_findFrom_28 rfl (lv_at hl 1 rfl) ?_
          obtain ⟨k_18, hk_18⟩ := va_plg hh0.1 e_12
          refine va_get (D := (dC, dI)) (ci := 2) (v := .ref q5_12) (C := RX2) (T := TX2) (N := 9) hx hb hts iX2_ hown hK hP k_18 hk_18 rfl 5 (by decide) (hts (.fieldLink RX2 28 "FieldLeaves" "found" "[LFieldLeaves$Thing;") (by decide +kernel)) (fun _ h9 => h9) rfl dX2_findFrom_29 ?_
          refine lv_iload_n hx hb dX2_findFrom_32 rfl (lv_at hl 0 rfl) ?_
          obtain ⟨k_19, hk_19⟩ := va_plg fq5_12.1 e_13
          have h_19 : vp_in i2 24 := (vp_in_iff.mpr (by constructor <;> omega))
          refine va_aldq hx hb hK hP k_19 0 hk_19 rfl h_19 dX2_findFrom_33 ?_
          have fo_19 := fg_13 _ (vp_lt h_19)
          have nn_19 := nn_hFu_14 (Int32.toNatClampNeg i2) (by rw [clamp_int (by omega)]; omega)
          generalize eo_19 : g_13 (Int32.toNatClampNeg i2) = o_19 at fo_19 nn_19 ⊢
          rcases o_19 with _ | y_20
          · exact absurd rfl nn_19
          · have fy_20 := fo_19 y_20 rfl
            refine W.eq (g2 := F0 m 34 ls [.ref y_20]) rfl ?_
            refine lv_astore_n (lv' := [(3, .ref y_20), (2, .int i2), (0, .ref h0), (1, .ref x0)]) hx hb dX2_findFrom_34 rfl hl (by decide) rfl (fun ls hl => ?_)
            refine lv_aload_n hx hb dX2_findFrom_35 rfl (lv_at hl 2 rfl) ?_
            refine lv_aload_n hx hb dX2_findFrom_36 rfl (lv_at hl 0 rfl) ?_
            obtain ⟨cn_21, v_21, b_21, m_21, st_21, i_21, e_21, fv_21, fb_21, fm_21, fst_21, fi_21⟩ := hPI.a1 fy_20
            obtain ⟨k_21, hk_21⟩ := va_plg fy_20.1 e_21
            refine va_get (D := (dC, dI)) (ci := 1) (v := va_rf b_21) (C := RX1) (T := TX1) (N := 6) hx hb hts iX1_ hown hK hP k_21 hk_21 rfl 2 (by decide) (hts (.fieldLink RX2 114 "FieldLeaves$Thing" "baseLink" "LFieldLeaves$Thing;") (by decide +kernel)) (fun _ h9 => h9) rfl dX2_findFrom_37 ?_
            rcases b_21 with _ | y_22
            · refine W.eq (g2 := F0 m 40 ls [.null, .ref h0]) rfl ?_
              have hN8 : g_lk f y_20 8 = none := by rw [← hFF.lk fy_20, th_lk e_21]; rfl
              obtain ⟨k_23, hk_23⟩ := va_plg hh0.1 e_12
              refine va_calli (va_runV (b := h0) (As := [.null]) (rest := []) ⟨hx, hb, hml, hown, hts⟩ (u_X2_addFound_null l dC dI TT H.size kT kI kJ K L fl hPI h0 hh0) (cwV 1 hts gX2_findFrom_X2_addFound rfl rfl rfl (by decide +kernel) ⟨Nat.le_of_ble_eq_true rfl, Nat.le_of_ble_eq_true rfl⟩) ⟨pr_blind, va_recv hK hP (ci := 2) rfl hk_23, (pr_S (ws := va_pl L fl) (wA := []) (tys := [(kT, .object RX1), (kI, .int), (kJ, .long)]) hP hK vd_nil hst hS (ro_free hS hA)).2⟩ rfl rfl hl.1 rfl (lv_room (Nat.le_of_ble_eq_true rfl)) dX2_findFrom_40 ⟨Nat.le_of_ble_eq_true rfl, Nat.le_of_ble_eq_true rfl⟩) hS (fun q _ h => (ro_free hS hA) q h) (ro_free hS hA) (fun r_24 u t H1 locs ht hvm hw hB hz1 hk1 hS => ?_)
              have hP := ro_keep hP hk1
              generalize H1 = H at hP hS ⊢
              subst hw
              have hFS : FS fl h0 (ad lc none) := hFS
              have hl24 : (ad lc none).length ≤ 24 := hl24
              have hall := ad_all (o := none) hall (fun _ h9 => by cases h9)
              refine lv_if_eq (tgt := 68) hx hb dX2_findFrom_43 (by decide) (fun c9 => absurd c9 (by decide)) (fun _ => ?_)
              refine lv_aload_n hx hb dX2_findFrom_46 rfl (lv_at hl 2 rfl) ?_
              refine lv_aload_n hx hb dX2_findFrom_47 rfl (lv_at hl 0 rfl) ?_
              obtain ⟨k_25, hk_25⟩ := va_plg fy_20.1 e_21
              refine va_get (D := (dC, dI)) (ci := 1) (v := va_rf m_21) (C := RX1) (T := TX1) (N := 6) hx hb hts iX1_ hown hK hP k_25 hk_25 rfl 3 (by decide) (hts (.fieldLink RX2 198 "FieldLeaves$Thing" "middleLink" "LFieldLeaves$Thing;") (by decide +kernel)) (fun _ h9 => h9) rfl dX2_findFrom_48 ?_
              rcases m_21 with _ | y_26
              · refine W.eq (g2 := F0 m 51 ls [.null, .ref h0]) rfl ?_
                have hN11 : g_lk f y_20 11 = none := by rw [← hFF.lk fy_20, th_lk e_21]; rfl
                obtain ⟨k_27, hk_27⟩ := va_plg hh0.1 e_12
                refine va_calli (va_runV (b := h0) (As := [.null]) (rest := []) ⟨hx, hb, hml, hown, hts⟩ (u_X2_addFound_null l dC dI TT H.size kT kI kJ K L fl hPI h0 hh0) (cwV 1 hts gX2_findFrom_X2_addFound rfl rfl rfl (by decide +kernel) ⟨Nat.le_of_ble_eq_true rfl, Nat.le_of_ble_eq_true rfl⟩) ⟨pr_blind, va_recv hK hP (ci := 2) rfl hk_27, (pr_S (ws := va_pl L fl) (wA := []) (tys := [(kT, .object RX1), (kI, .int), (kJ, .long)]) hP hK vd_nil hst hS (ro_free hS hA)).2⟩ rfl rfl hl.1 rfl (lv_room (Nat.le_of_ble_eq_true rfl)) dX2_findFrom_51 ⟨Nat.le_of_ble_eq_true rfl, Nat.le_of_ble_eq_true rfl⟩) hS (fun q _ h => (ro_free hS hA) q h) (ro_free hS hA) (fun r_28 u t H1 locs ht hvm hw hB hz1 hk1 hS => ?_)
                have hP := ro_keep hP hk1
                generalize H1 = H at hP hS ⊢
                subst hw
                have hFS : FS fl h0 (ad (ad lc none) none) := hFS
                have hl24 : (ad (ad lc none) none).length ≤ 24 := hl24
                have hall := ad_all (o := none) hall (fun _ h9 => by cases h9)
                refine lv_if_eq (tgt := 68) hx hb dX2_findFrom_54 (by decide) (fun c9 => absurd c9 (by decide)) (fun _ => ?_)
                refine lv_aload_n hx hb dX2_findFrom_57 rfl (lv_at hl 2 rfl) ?_
                refine lv_aload_n hx hb dX2_findFrom_58 rfl (lv_at hl 0 rfl) ?_
                obtain ⟨k_29, hk_29⟩ := va_plg fy_20.1 e_21
                refine va_get (D := (dC, dI)) (ci := 1) (v := va_rf st_21) (C := RX1) (T := TX1) (N := 6) hx hb hts iX1_ hown hK hP k_29 hk_29 rfl 4 (by decide) (hts (.fieldLink RX2 201 "FieldLeaves$Thing" "strayBack" "LFieldLeaves$Thing;") (by decide +kernel)) (fun _ h9 => h9) rfl dX2_findFrom_59 ?_
                rcases st_21 with _ | y_30
                · refine W.eq (g2 := F0 m 62 ls [.null, .ref h0]) rfl ?_
                  have hN15 : g_lk f y_20 15 = none := by rw [← hFF.lk fy_20, th_lk e_21]; rfl
                  obtain ⟨k_31, hk_31⟩ := va_plg hh0.1 e_12
                  refine va_calli (va_runV (b := h0) (As := [.null]) (rest := []) ⟨hx, hb, hml, hown, hts⟩ (u_X2_addFound_null l dC dI TT H.size kT kI kJ K L fl hPI h0 hh0) (cwV 1 hts gX2_findFrom_X2_addFound rfl rfl rfl (by decide +kernel) ⟨Nat.le_of_ble_eq_true rfl, Nat.le_of_ble_eq_true rfl⟩) ⟨pr_blind, va_recv hK hP (ci := 2) rfl hk_31, (pr_S (ws := va_pl L fl) (wA := []) (tys := [(kT, .object RX1), (kI, .int), (kJ, .long)]) hP hK vd_nil hst hS (ro_free hS hA)).2⟩ rfl rfl hl.1 rfl (lv_room (Nat.le_of_ble_eq_true rfl)) dX2_findFrom_62 ⟨Nat.le_of_ble_eq_true rfl, Nat.le_of_ble_eq_true rfl⟩) hS (fun q _ h => (ro_free hS hA) q h) (ro_free hS hA) (fun r_32 u t H1 locs ht hvm hw hB hz1 hk1 hS => ?_)
                  have hP := ro_keep hP hk1
                  generalize H1 = H at hP hS ⊢
                  subst hw
                  have hFS : FS fl h0 (ad (ad (ad lc none) none) none) := hFS
                  have hl24 : (ad (ad (ad lc none) none) none).length ≤ 24 := hl24
                  have hall := ad_all (o := none) hall (fun _ h9 => by cases h9)
                  refine lv_if_ne (tgt := 70) hx hb dX2_findFrom_65 (by decide) (fun _ => ?_) (fun c9 => absurd c9 (by decide))
                  obtain ⟨i_33, ei_33⟩ : ∃ y : Int32, y = i2 + 1 := ⟨_, rfl⟩
                  refine lv_iinc (v := i_33) (lv' := [(2, .int i_33), (3, .ref y_20), (0, .ref h0), (1, .ref x0)]) hx hb dX2_findFrom_70 hl (k := 1) rfl (by rw [ei_33]; rfl) (by decide) rfl (fun ls hl => ?_)
                  have ki_33 := inc_toInt ei_33 (by omega)
                  refine lv_goto (tgt := 14) hx hb dX2_findFrom_73 (by decide) ?_
                  exact ih_14 i_33 fl _ _ _  (by omega) (by omega) ⟨(ad (ad (ad lc none) none) none), ⟨hFF, hFS⟩, ⟨hl24, hall⟩, by rw [← st3_is (l := lc) hN8 hN11 hN15, fd_step1 (i := i2) (by omega) (by omega) (fs_at hFu_14 (by omega) (by omega) eo_19) (by rw [st3_is hN8 hN11 hN15]; exact hl24) ki_33]; exact hfd⟩ hPI hP hD hS (lv_sub hl [0, 2, 3] rfl)
                · have fy_30 := fst_21 y_30 rfl
                  refine W.eq (g2 := F0 m 62 ls [.ref y_30, .ref h0]) rfl ?_
                  have hN15 : g_lk f y_20 15 = (some y_30) := by rw [← hFF.lk fy_20, th_lk e_21]; rfl
                  have hFc := pl_free hD hS hA
                  obtain ⟨k_34, hk_34⟩ := va_plg hh0.1 e_12
                  refine va_calli (va_runV (b := h0) (As := [.ref y_30]) (rest := []) ⟨hx, hb, hml, hown, hts⟩ (u_X2_addFound l dC dI TT H.size kT kI kJ K L fl hPI h0 hh0 y_30 fy_30 (ad (ad lc none) none) hFS hl24) (cwV 1 hts gX2_findFrom_X2_addFound rfl rfl rfl (by decide +kernel) ⟨Nat.le_of_ble_eq_true rfl, Nat.le_of_ble_eq_true rfl⟩) ⟨pr_blind, va_recv hK hP (ci := 2) rfl hk_34, (pr_S (ws := va_pl L fl) (wA := va_pl L fl) (tys := [(kT, .object RX1), (kI, .int), (kJ, .long)]) hP hK (hD.weaken (fun _ _ _ _ => trivial)) hst hS hFc).2⟩ rfl rfl hl.1 rfl (lv_room (Nat.le_of_ble_eq_true rfl)) dX2_findFrom_62 ⟨Nat.le_of_ble_eq_true rfl, Nat.le_of_ble_eq_true rfl⟩) hS (fun q _ h => hFc q h) hFc (fun r_35 u t H1 locs ht hvm hw hB hz1 hk1 hS => ?_)
                  obtain ⟨f_36, hPI, hrel, hP, hD9⟩ := hB
                  rw [ht] at hP
                  have hD := hD9.weaken (fun _ q _ h => hFc q.1 h)
                  generalize H1 = H at hP hS ⊢
                  obtain ⟨hFF1, hFS1⟩ := hrel
                  have hFF := hFF.tr hFF1
                  rcases hw with ⟨rfl, hp_37⟩ | ⟨rfl, hp_37⟩
                  · have hFS := hFS1 hp_37
                    have hl24 := hp_37
                    have hall := ad_all (o := (some y_30)) hall (fun _ h9 => by cases h9; exact fy_30)
                    refine lv_if_ne (tgt := 70) hx hb dX2_findFrom_65 (by decide) (fun _ => ?_) (fun c9 => absurd c9 (by decide))
                    obtain ⟨i_38, ei_38⟩ : ∃ y : Int32, y = i2 + 1 := ⟨_, rfl⟩
                    refine lv_iinc (v := i_38) (lv' := [(2, .int i_38), (3, .ref y_20), (0, .ref h0), (1, .ref x0)]) hx hb dX2_findFrom_70 hl (k := 1) rfl (by rw [ei_38]; rfl) (by decide) rfl (fun ls hl => ?_)
                    have ki_38 := inc_toInt ei_38 (by omega)
                    refine lv_goto (tgt := 14) hx hb dX2_findFrom_73 (by decide) ?_
                    exact ih_14 i_38 f_36 _ _ _  (by omega) (by omega) ⟨(ad (ad (ad lc none) none) (some y_30)), ⟨hFF, hFS⟩, ⟨hl24, hall⟩, by rw [← st3_is (l := lc) hN8 hN11 hN15, fd_step1 (i := i2) (by omega) (by omega) (fs_at hFu_14 (by omega) (by omega) eo_19) (by rw [st3_is hN8 hN11 hN15]; exact hl24) ki_38]; exact hfd⟩ hPI hP hD hS (lv_sub hl [0, 2, 3] rfl)
                  · refine lv_if_ne (tgt := 70) hx hb dX2_findFrom_65 (by decide) (fun c9 => absurd c9 (by decide)) (fun _ => ?_)
                    refine lv_iconst (v := 0) hx hb dX2_findFrom_68 (by decide) ?_
                    subst eQ
                    exact W.zret (v := 0) hx hb hr rfl (fun t ht hW => ⟨⟨0, (), rfl, Or.inr ⟨rfl, by rw [(hfd.symm.trans (fd_over1 (by omega) (by omega) (fs_at hFu_14 (by omega) (by omega) eo_19) (by rw [st3_is hN8 hN11 hN15]; exact hp_37)))]; exact fun h9 => by cases h9⟩, f_36, hPI, ⟨hFF, fun l h9 => by rw [(hfd.symm.trans (fd_over1 (by omega) (by omega) (fs_at hFu_14 (by omega) (by omega) eo_19) (by rw [st3_is hN8 hN11 hN15]; exact hp_37)))] at h9; cases h9⟩, by rw [ht]; exact hP, hD⟩, hS.F ht⟩) hS.2.2 dX2_findFrom_69
              · have fy_26 := fm_21 y_26 rfl
                refine W.eq (g2 := F0 m 51 ls [.ref y_26, .ref h0]) rfl ?_
                have hN11 : g_lk f y_20 11 = (some y_26) := by rw [← hFF.lk fy_20, th_lk e_21]; rfl
                have hFc := pl_free hD hS hA
                obtain ⟨k_39, hk_39⟩ := va_plg hh0.1 e_12
                refine va_calli (va_runV (b := h0) (As := [.ref y_26]) (rest := []) ⟨hx, hb, hml, hown, hts⟩ (u_X2_addFound l dC dI TT H.size kT kI kJ K L fl hPI h0 hh0 y_26 fy_26 (ad lc none) hFS hl24) (cwV 1 hts gX2_findFrom_X2_addFound rfl rfl rfl (by decide +kernel) ⟨Nat.le_of_ble_eq_true rfl, Nat.le_of_ble_eq_true rfl⟩) ⟨pr_blind, va_recv hK hP (ci := 2) rfl hk_39, (pr_S (ws := va_pl L fl) (wA := va_pl L fl) (tys := [(kT, .object RX1), (kI, .int), (kJ, .long)]) hP hK (hD.weaken (fun _ _ _ _ => trivial)) hst hS hFc).2⟩ rfl rfl hl.1 rfl (lv_room (Nat.le_of_ble_eq_true rfl)) dX2_findFrom_51 ⟨Nat.le_of_ble_eq_true rfl, Nat.le_of_ble_eq_true rfl⟩) hS (fun q _ h => hFc q h) hFc (fun r_40 u t H1 locs ht hvm hw hB hz1 hk1 hS => ?_)
                obtain ⟨f_41, hPI, hrel, hP, hD9⟩ := hB
                rw [ht] at hP
                have hD := hD9.weaken (fun _ q _ h => hFc q.1 h)
                generalize H1 = H at hP hS ⊢
                obtain ⟨hFF1, hFS1⟩ := hrel
                have hFF := hFF.tr hFF1
                rcases hw with ⟨rfl, hp_42⟩ | ⟨rfl, hp_42⟩
                · have hFS := hFS1 hp_42
                  have hl24 := hp_42
                  have hall := ad_all (o := (some y_26)) hall (fun _ h9 => by cases h9; exact fy_26)
                  refine lv_if_eq (tgt := 68) hx hb dX2_findFrom_54 (by decide) (fun c9 => absurd c9 (by decide)) (fun _ => ?_)
                  refine lv_aload_n hx hb dX2_findFrom_57 rfl (lv_at hl 2 rfl) ?_
                  refine lv_aload_n hx hb dX2_findFrom_58 rfl (lv_at hl 0 rfl) ?_
                  obtain ⟨cn_43, v_43, b_43, m_43, st_43, i_43, e_43, fv_43, fb_43, fm_43, fst_43, fi_43⟩ := hPI.a1 fy_20
                  obtain ⟨k_43, hk_43⟩ := va_plg fy_20.1 e_43
                  refine va_get (D := (dC, dI)) (ci := 1) (v := va_rf st_43) (C := RX1) (T := TX1) (N := 6) hx hb hts iX1_ hown hK hP k_43 hk_43 rfl 4 (by decide) (hts (.fieldLink RX2 201 "FieldLeaves$Thing" "strayBack" "LFieldLeaves$Thing;") (by decide +kernel)) (fun _ h9 => h9) rfl dX2_findFrom_59 ?_
                  rcases st_43 with _ | y_44
                  · refine W.eq (g2 := F0 m 62 ls [.null, .ref h0]) rfl ?_
                    have hN15 : g_lk f y_20 15 = none := by rw [← hFF.lk fy_20, th_lk e_43]; rfl
                    obtain ⟨q1_45, pc_45, c1_45, c2_45, c3_45, q5_45, fc_45, q7_45, mc_45, e_45, fq1_45, fc1_45, fc2_45, fc3_45, fq5_45, ffc_45, fq7_45, fmc_45⟩ := hPI.a2 hh0
                    obtain ⟨k_45, hk_45⟩ := va_plg hh0.1 e_45
                    refine va_calli (va_runV (b := h0) (As := [.null]) (rest := []) ⟨hx, hb, hml, hown, hts⟩ (u_X2_addFound_null l dC dI TT H.size kT kI kJ K L f_41 hPI h0 hh0) (cwV 1 hts gX2_findFrom_X2_addFound rfl rfl rfl (by decide +kernel) ⟨Nat.le_of_ble_eq_true rfl, Nat.le_of_ble_eq_true rfl⟩) ⟨pr_blind, va_recv hK hP (ci := 2) rfl hk_45, (pr_S (ws := va_pl L f_41) (wA := []) (tys := [(kT, .object RX1), (kI, .int), (kJ, .long)]) hP hK vd_nil hst hS (ro_free hS hA)).2⟩ rfl rfl hl.1 rfl (lv_room (Nat.le_of_ble_eq_true rfl)) dX2_findFrom_62 ⟨Nat.le_of_ble_eq_true rfl, Nat.le_of_ble_eq_true rfl⟩) hS (fun q _ h => (ro_free hS hA) q h) (ro_free hS hA) (fun r_46 u t H1 locs ht hvm hw hB hz1 hk1 hS => ?_)
                    have hP := ro_keep hP hk1
                    generalize H1 = H at hP hS ⊢
                    subst hw
                    have hFS : FS f_41 h0 (ad (ad (ad lc none) (some y_26)) none) := hFS
                    have hl24 : (ad (ad (ad lc none) (some y_26)) none).length ≤ 24 := hl24
                    have hall := ad_all (o := none) hall (fun _ h9 => by cases h9)
                    refine lv_if_ne (tgt := 70) hx hb dX2_findFrom_65 (by decide) (fun _ => ?_) (fun c9 => absurd c9 (by decide))
                    obtain ⟨i_47, ei_47⟩ : ∃ y : Int32, y = i2 + 1 := ⟨_, rfl⟩
                    refine lv_iinc (v := i_47) (lv' := [(2, .int i_47), (3, .ref y_20), (0, .ref h0), (1, .ref x0)]) hx hb dX2_findFrom_70 hl (k := 1) rfl (by rw [ei_47]; rfl) (by decide) rfl (fun ls hl => ?_)
                    have ki_47 := inc_toInt ei_47 (by omega)
                    refine lv_goto (tgt := 14) hx hb dX2_findFrom_73 (by decide) ?_
                    exact ih_14 i_47 f_41 _ _ _  (by omega) (by omega) ⟨(ad (ad (ad lc none) (some y_26)) none), ⟨hFF, hFS⟩, ⟨hl24, hall⟩, by rw [← st3_is (l := lc) hN8 hN11 hN15, fd_step1 (i := i2) (by omega) (by omega) (fs_at hFu_14 (by omega) (by omega) eo_19) (by rw [st3_is hN8 hN11 hN15]; exact hl24) ki_47]; exact hfd⟩ hPI hP hD hS (lv_sub hl [0, 2, 3] rfl)
                  · have fy_44 := fst_43 y_44 rfl
                    refine W.eq (g2 := F0 m 62 ls [.ref y_44, .ref h0]) rfl ?_
                    have hN15 : g_lk f y_20 15 = (some y_44) := by rw [← hFF.lk fy_20, th_lk e_43]; rfl
                    have hFc := pl_free hD hS hA
                    obtain ⟨q1_48, pc_48, c1_48, c2_48, c3_48, q5_48, fc_48, q7_48, mc_48, e_48, fq1_48, fc1_48, fc2_48, fc3_48, fq5_48, ffc_48, fq7_48, fmc_48⟩ := hPI.a2 hh0
                    obtain ⟨k_48, hk_48⟩ := va_plg hh0.1 e_48
                    refine va_calli (va_runV (b := h0) (As := [.ref y_44]) (rest := []) ⟨hx, hb, hml, hown, hts⟩ (u_X2_addFound l dC dI TT H.size kT kI kJ K L f_41 hPI h0 hh0 y_44 fy_44 (ad (ad lc none) (some y_26)) hFS hl24) (cwV 1 hts gX2_findFrom_X2_addFound rfl rfl rfl (by decide +kernel) ⟨Nat.le_of_ble_eq_true rfl, Nat.le_of_ble_eq_true rfl⟩) ⟨pr_blind, va_recv hK hP (ci := 2) rfl hk_48, (pr_S (ws := va_pl L f_41) (wA := va_pl L f_41) (tys := [(kT, .object RX1), (kI, .int), (kJ, .long)]) hP hK (hD.weaken (fun _ _ _ _ => trivial)) hst hS hFc).2⟩ rfl rfl hl.1 rfl (lv_room (Nat.le_of_ble_eq_true rfl)) dX2_findFrom_62 ⟨Nat.le_of_ble_eq_true rfl, Nat.le_of_ble_eq_true rfl⟩) hS (fun q _ h => hFc q h) hFc (fun r_49 u t H1 locs ht hvm hw hB hz1 hk1 hS => ?_)
                    obtain ⟨f_50, hPI, hrel, hP, hD9⟩ := hB
                    rw [ht] at hP
                    have hD := hD9.weaken (fun _ q _ h => hFc q.1 h)
                    generalize H1 = H at hP hS ⊢
                    obtain ⟨hFF1, hFS1⟩ := hrel
                    have hFF := hFF.tr hFF1
                    rcases hw with ⟨rfl, hp_51⟩ | ⟨rfl, hp_51⟩
                    · have hFS := hFS1 hp_51
                      have hl24 := hp_51
                      have hall := ad_all (o := (some y_44)) hall (fun _ h9 => by cases h9; exact fy_44)
                      refine lv_if_ne (tgt := 70) hx hb dX2_findFrom_65 (by decide) (fun _ => ?_) (fun c9 => absurd c9 (by decide))
                      obtain ⟨i_52, ei_52⟩ : ∃ y : Int32, y = i2 + 1 := ⟨_, rfl⟩
                      refine lv_iinc (v := i_52) (lv' := [(2, .int i_52), (3, .ref y_20), (0, .ref h0), (1, .ref x0)]) hx hb dX2_findFrom_70 hl (k := 1) rfl (by rw [ei_52]; rfl) (by decide) rfl (fun ls hl => ?_)
                      have ki_52 := inc_toInt ei_52 (by omega)
                      refine lv_goto (tgt := 14) hx hb dX2_findFrom_73 (by decide) ?_
                      exact ih_14 i_52 f_50 _ _ _  (by omega) (by omega) ⟨(ad (ad (ad lc none) (some y_26)) (some y_44)), ⟨hFF, hFS⟩, ⟨hl24, hall⟩, by rw [← st3_is (l := lc) hN8 hN11 hN15, fd_step1 (i := i2) (by omega) (by omega) (fs_at hFu_14 (by omega) (by omega) eo_19) (by rw [st3_is hN8 hN11 hN15]; exact hl24) ki_52]; exact hfd⟩ hPI hP hD hS (lv_sub hl [0, 2, 3] rfl)
                    · refine lv_if_ne (tgt := 70) hx hb dX2_findFrom_65 (by decide) (fun c9 => absurd c9 (by decide)) (fun _ => ?_)
                      refine lv_iconst (v := 0) hx hb dX2_findFrom_68 (by decide) ?_
                      subst eQ
                      exact W.zret (v := 0) hx hb hr rfl (fun t ht hW => ⟨⟨0, (), rfl, Or.inr ⟨rfl, by rw [(hfd.symm.trans (fd_over1 (by omega) (by omega) (fs_at hFu_14 (by omega) (by omega) eo_19) (by rw [st3_is hN8 hN11 hN15]; exact hp_51)))]; exact fun h9 => by cases h9⟩, f_50, hPI, ⟨hFF, fun l h9 => by rw [(hfd.symm.trans (fd_over1 (by omega) (by omega) (fs_at hFu_14 (by omega) (by omega) eo_19) (by rw [st3_is hN8 hN11 hN15]; exact hp_51)))] at h9; cases h9⟩, by rw [ht]; exact hP, hD⟩, hS.F ht⟩) hS.2.2 dX2_findFrom_69
                · refine lv_if_eq (tgt := 68) hx hb dX2_findFrom_54 (by decide) (fun _ => ?_) (fun c9 => absurd c9 (by decide))
                  refine lv_iconst (v := 0) hx hb dX2_findFrom_68 (by decide) ?_
                  subst eQ
                  exact W.zret (v := 0) hx hb hr rfl (fun t ht hW => ⟨⟨0, (), rfl, Or.inr ⟨rfl, by rw [(hfd.symm.trans (fd_over1 (by omega) (by omega) (fs_at hFu_14 (by omega) (by omega) eo_19) (st3_over2 (by rw [hN8, hN11]; omega))))]; exact fun h9 => by cases h9⟩, f_41, hPI, ⟨hFF, fun l h9 => by rw [(hfd.symm.trans (fd_over1 (by omega) (by omega) (fs_at hFu_14 (by omega) (by omega) eo_19) (st3_over2 (by rw [hN8, hN11]; omega))))] at h9; cases h9⟩, by rw [ht]; exact hP, hD⟩, hS.F ht⟩) hS.2.2 dX2_findFrom_69
            · have fy_22 := fb_21 y_22 rfl
              refine W.eq (g2 := F0 m 40 ls [.ref y_22, .ref h0]) rfl ?_
              have hN8 : g_lk f y_20 8 = (some y_22) := by rw [← hFF.lk fy_20, th_lk e_21]; rfl
              have hFc := pl_free hD hS hA
              obtain ⟨k_53, hk_53⟩ := va_plg hh0.1 e_12
              refine va_calli (va_runV (b := h0) (As := [.ref y_22]) (rest := []) ⟨hx, hb, hml, hown, hts⟩ (u_X2_addFound l dC dI TT H.size kT kI kJ K L fl hPI h0 hh0 y_22 fy_22 lc hFS hl24) (cwV 1 hts gX2_findFrom_X2_addFound rfl rfl rfl (by decide +kernel) ⟨Nat.le_of_ble_eq_true rfl, Nat.le_of_ble_eq_true rfl⟩) ⟨pr_blind, va_recv hK hP (ci := 2) rfl hk_53, (pr_S (ws := va_pl L fl) (wA := va_pl L fl) (tys := [(kT, .object RX1), (kI, .int), (kJ, .long)]) hP hK (hD.weaken (fun _ _ _ _ => trivial)) hst hS hFc).2⟩ rfl rfl hl.1 rfl (lv_room (Nat.le_of_ble_eq_true rfl)) dX2_findFrom_40 ⟨Nat.le_of_ble_eq_true rfl, Nat.le_of_ble_eq_true rfl⟩) hS (fun q _ h => hFc q h) hFc (fun r_54 u t H1 locs ht hvm hw hB hz1 hk1 hS => ?_)
              obtain ⟨f_55, hPI, hrel, hP, hD9⟩ := hB
              rw [ht] at hP
              have hD := hD9.weaken (fun _ q _ h => hFc q.1 h)
              generalize H1 = H at hP hS ⊢
              obtain ⟨hFF1, hFS1⟩ := hrel
              have hFF := hFF.tr hFF1
              rcases hw with ⟨rfl, hp_56⟩ | ⟨rfl, hp_56⟩
              · have hFS := hFS1 hp_56
                have hl24 := hp_56
                have hall := ad_all (o := (some y_22)) hall (fun _ h9 => by cases h9; exact fy_22)
                refine lv_if_eq (tgt := 68) hx hb dX2_findFrom_43 (by decide) (fun c9 => absurd c9 (by decide)) (fun _ => ?_)
                refine lv_aload_n hx hb dX2_findFrom_46 rfl (lv_at hl 2 rfl) ?_
                refine lv_aload_n hx hb dX2_findFrom_47 rfl (lv_at hl 0 rfl) ?_
                obtain ⟨cn_57, v_57, b_57, m_57, st_57, i_57, e_57, fv_57, fb_57, fm_57, fst_57, fi_57⟩ := hPI.a1 fy_20
                obtain ⟨k_57, hk_57⟩ := va_plg fy_20.1 e_57
                refine va_get (D := (dC, dI)) (ci := 1) (v := va_rf m_57) (C := RX1) (T := TX1) (N := 6) hx hb hts iX1_ hown hK hP k_57 hk_57 rfl 3 (by decide) (hts (.fieldLink RX2 198 "FieldLeaves$Thing" "middleLink" "LFieldLeaves$Thing;") (by decide +kernel)) (fun _ h9 => h9) rfl dX2_findFrom_48 ?_
                rcases m_57 with _ | y_58
                · refine W.eq (g2 := F0 m 51 ls [.null, .ref h0]) rfl ?_
                  have hN11 : g_lk f y_20 11 = none := by rw [← hFF.lk fy_20, th_lk e_57]; rfl
                  obtain ⟨q1_59, pc_59, c1_59, c2_59, c3_59, q5_59, fc_59, q7_59, mc_59, e_59, fq1_59, fc1_59, fc2_59, fc3_59, fq5_59, ffc_59, fq7_59, fmc_59⟩ := hPI.a2 hh0
                  obtain ⟨k_59, hk_59⟩ := va_plg hh0.1 e_59
                  refine va_calli (va_runV (b := h0) (As := [.null]) (rest := []) ⟨hx, hb, hml, hown, hts⟩ (u_X2_addFound_null l dC dI TT H.size kT kI kJ K L f_55 hPI h0 hh0) (cwV 1 hts gX2_findFrom_X2_addFound rfl rfl rfl (by decide +kernel) ⟨Nat.le_of_ble_eq_true rfl, Nat.le_of_ble_eq_true rfl⟩) ⟨pr_blind, va_recv hK hP (ci := 2) rfl hk_59, (pr_S (ws := va_pl L f_55) (wA := []) (tys := [(kT, .object RX1), (kI, .int), (kJ, .long)]) hP hK vd_nil hst hS (ro_free hS hA)).2⟩ rfl rfl hl.1 rfl (lv_room (Nat.le_of_ble_eq_true rfl)) dX2_findFrom_51 ⟨Nat.le_of_ble_eq_true rfl, Nat.le_of_ble_eq_true rfl⟩) hS (fun q _ h => (ro_free hS hA) q h) (ro_free hS hA) (fun r_60 u t H1 locs ht hvm hw hB hz1 hk1 hS => ?_)
                  have hP := ro_keep hP hk1
                  generalize H1 = H at hP hS ⊢
                  subst hw
                  have hFS : FS f_55 h0 (ad (ad lc (some y_22)) none) := hFS
                  have hl24 : (ad (ad lc (some y_22)) none).length ≤ 24 := hl24
                  have hall := ad_all (o := none) hall (fun _ h9 => by cases h9)
                  refine lv_if_eq (tgt := 68) hx hb dX2_findFrom_54 (by decide) (fun c9 => absurd c9 (by decide)) (fun _ => ?_)
                  refine lv_aload_n hx hb dX2_findFrom_57 rfl (lv_at hl 2 rfl) ?_
                  refine lv_aload_n hx hb dX2_findFrom_58 rfl (lv_at hl 0 rfl) ?_
                  obtain ⟨k_61, hk_61⟩ := va_plg fy_20.1 e_57
                  refine va_get (D := (dC, dI)) (ci := 1) (v := va_rf st_57) (C := RX1) (T := TX1) (N := 6) hx hb hts iX1_ hown hK hP k_61 hk_61 rfl 4 (by decide) (hts (.fieldLink RX2 201 "FieldLeaves$Thing" "strayBack" "LFieldLeaves$Thing;") (by decide +kernel)) (fun _ h9 => h9) rfl dX2_findFrom_59 ?_
                  rcases st_57 with _ | y_62
                  · refine W.eq (g2 := F0 m 62 ls [.null, .ref h0]) rfl ?_
                    have hN15 : g_lk f y_20 15 = none := by rw [← hFF.lk fy_20, th_lk e_57]; rfl
                    obtain ⟨k_63, hk_63⟩ := va_plg hh0.1 e_59
                    refine va_calli (va_runV (b := h0) (As := [.null]) (rest := []) ⟨hx, hb, hml, hown, hts⟩ (u_X2_addFound_null l dC dI TT H.size kT kI kJ K L f_55 hPI h0 hh0) (cwV 1 hts gX2_findFrom_X2_addFound rfl rfl rfl (by decide +kernel) ⟨Nat.le_of_ble_eq_true rfl, Nat.le_of_ble_eq_true rfl⟩) ⟨pr_blind, va_recv hK hP (ci := 2) rfl hk_63, (pr_S (ws := va_pl L f_55) (wA := []) (tys := [(kT, .object RX1), (kI, .int), (kJ, .long)]) hP hK vd_nil hst hS (ro_free hS hA)).2⟩ rfl rfl hl.1 rfl (lv_room (Nat.le_of_ble_eq_true rfl)) dX2_findFrom_62 ⟨Nat.le_of_ble_eq_true rfl, Nat.le_of_ble_eq_true rfl⟩) hS (fun q _ h => (ro_free hS hA) q h) (ro_free hS hA) (fun r_64 u t H1 locs ht hvm hw hB hz1 hk1 hS => ?_)
                    have hP := ro_keep hP hk1
                    generalize H1 = H at hP hS ⊢
                    subst hw
                    have hFS : FS f_55 h0 (ad (ad (ad lc (some y_22)) none) none) := hFS
                    have hl24 : (ad (ad (ad lc (some y_22)) none) none).length ≤ 24 := hl24
                    have hall := ad_all (o := none) hall (fun _ h9 => by cases h9)
                    refine lv_if_ne (tgt := 70) hx hb dX2_findFrom_65 (by decide) (fun _ => ?_) (fun c9 => absurd c9 (by decide))
                    obtain ⟨i_65, ei_65⟩ : ∃ y : Int32, y = i2 + 1 := ⟨_, rfl⟩
                    refine lv_iinc (v := i_65) (lv' := [(2, .int i_65), (3, .ref y_20), (0, .ref h0), (1, .ref x0)]) hx hb dX2_findFrom_70 hl (k := 1) rfl (by rw [ei_65]; rfl) (by decide) rfl (fun ls hl => ?_)
                    have ki_65 := inc_toInt ei_65 (by omega)
                    refine lv_goto (tgt := 14) hx hb dX2_findFrom_73 (by decide) ?_
                    exact ih_14 i_65 f_55 _ _ _  (by omega) (by omega) ⟨(ad (ad (ad lc (some y_22)) none) none), ⟨hFF, hFS⟩, ⟨hl24, hall⟩, by rw [← st3_is (l := lc) hN8 hN11 hN15, fd_step1 (i := i2) (by omega) (by omega) (fs_at hFu_14 (by omega) (by omega) eo_19) (by rw [st3_is hN8 hN11 hN15]; exact hl24) ki_65]; exact hfd⟩ hPI hP hD hS (lv_sub hl [0, 2, 3] rfl)
                  · have fy_62 := fst_57 y_62 rfl
                    refine W.eq (g2 := F0 m 62 ls [.ref y_62, .ref h0]) rfl ?_
                    have hN15 : g_lk f y_20 15 = (some y_62) := by rw [← hFF.lk fy_20, th_lk e_57]; rfl
                    have hFc := pl_free hD hS hA
                    obtain ⟨k_66, hk_66⟩ := va_plg hh0.1 e_59
                    refine va_calli (va_runV (b := h0) (As := [.ref y_62]) (rest := []) ⟨hx, hb, hml, hown, hts⟩ (u_X2_addFound l dC dI TT H.size kT kI kJ K L f_55 hPI h0 hh0 y_62 fy_62 (ad (ad lc (some y_22)) none) hFS hl24) (cwV 1 hts gX2_findFrom_X2_addFound rfl rfl rfl (by decide +kernel) ⟨Nat.le_of_ble_eq_true rfl, Nat.le_of_ble_eq_true rfl⟩) ⟨pr_blind, va_recv hK hP (ci := 2) rfl hk_66, (pr_S (ws := va_pl L f_55) (wA := va_pl L f_55) (tys := [(kT, .object RX1), (kI, .int), (kJ, .long)]) hP hK (hD.weaken (fun _ _ _ _ => trivial)) hst hS hFc).2⟩ rfl rfl hl.1 rfl (lv_room (Nat.le_of_ble_eq_true rfl)) dX2_findFrom_62 ⟨Nat.le_of_ble_eq_true rfl, Nat.le_of_ble_eq_true rfl⟩) hS (fun q _ h => hFc q h) hFc (fun r_67 u t H1 locs ht hvm hw hB hz1 hk1 hS => ?_)
                    obtain ⟨f_68, hPI, hrel, hP, hD9⟩ := hB
                    rw [ht] at hP
                    have hD := hD9.weaken (fun _ q _ h => hFc q.1 h)
                    generalize H1 = H at hP hS ⊢
                    obtain ⟨hFF1, hFS1⟩ := hrel
                    have hFF := hFF.tr hFF1
                    rcases hw with ⟨rfl, hp_69⟩ | ⟨rfl, hp_69⟩
                    · have hFS := hFS1 hp_69
                      have hl24 := hp_69
                      have hall := ad_all (o := (some y_62)) hall (fun _ h9 => by cases h9; exact fy_62)
                      refine lv_if_ne (tgt := 70) hx hb dX2_findFrom_65 (by decide) (fun _ => ?_) (fun c9 => absurd c9 (by decide))
                      obtain ⟨i_70, ei_70⟩ : ∃ y : Int32, y = i2 + 1 := ⟨_, rfl⟩
                      refine lv_iinc (v := i_70) (lv' := [(2, .int i_70), (3, .ref y_20), (0, .ref h0), (1, .ref x0)]) hx hb dX2_findFrom_70 hl (k := 1) rfl (by rw [ei_70]; rfl) (by decide) rfl (fun ls hl => ?_)
                      have ki_70 := inc_toInt ei_70 (by omega)
                      refine lv_goto (tgt := 14) hx hb dX2_findFrom_73 (by decide) ?_
                      exact ih_14 i_70 f_68 _ _ _  (by omega) (by omega) ⟨(ad (ad (ad lc (some y_22)) none) (some y_62)), ⟨hFF, hFS⟩, ⟨hl24, hall⟩, by rw [← st3_is (l := lc) hN8 hN11 hN15, fd_step1 (i := i2) (by omega) (by omega) (fs_at hFu_14 (by omega) (by omega) eo_19) (by rw [st3_is hN8 hN11 hN15]; exact hl24) ki_70]; exact hfd⟩ hPI hP hD hS (lv_sub hl [0, 2, 3] rfl)
                    · refine lv_if_ne (tgt := 70) hx hb dX2_findFrom_65 (by decide) (fun c9 => absurd c9 (by decide)) (fun _ => ?_)
                      refine lv_iconst (v := 0) hx hb dX2_findFrom_68 (by decide) ?_
                      subst eQ
                      exact W.zret (v := 0) hx hb hr rfl (fun t ht hW => ⟨⟨0, (), rfl, Or.inr ⟨rfl, by rw [(hfd.symm.trans (fd_over1 (by omega) (by omega) (fs_at hFu_14 (by omega) (by omega) eo_19) (by rw [st3_is hN8 hN11 hN15]; exact hp_69)))]; exact fun h9 => by cases h9⟩, f_68, hPI, ⟨hFF, fun l h9 => by rw [(hfd.symm.trans (fd_over1 (by omega) (by omega) (fs_at hFu_14 (by omega) (by omega) eo_19) (by rw [st3_is hN8 hN11 hN15]; exact hp_69)))] at h9; cases h9⟩, by rw [ht]; exact hP, hD⟩, hS.F ht⟩) hS.2.2 dX2_findFrom_69
                · have fy_58 := fm_57 y_58 rfl
                  refine W.eq (g2 := F0 m 51 ls [.ref y_58, .ref h0]) rfl ?_
                  have hN11 : g_lk f y_20 11 = (some y_58) := by rw [← hFF.lk fy_20, th_lk e_57]; rfl
                  have hFc := pl_free hD hS hA
                  obtain ⟨q1_71, pc_71, c1_71, c2_71, c3_71, q5_71, fc_71, q7_71, mc_71, e_71, fq1_71, fc1_71, fc2_71, fc3_71, fq5_71, ffc_71, fq7_71, fmc_71⟩ := hPI.a2 hh0
                  obtain ⟨k_71, hk_71⟩ := va_plg hh0.1 e_71
                  refine va_calli (va_runV (b := h0) (As := [.ref y_58]) (rest := []) ⟨hx, hb, hml, hown, hts⟩ (u_X2_addFound l dC dI TT H.size kT kI kJ K L f_55 hPI h0 hh0 y_58 fy_58 (ad lc (some y_22)) hFS hl24) (cwV 1 hts gX2_findFrom_X2_addFound rfl rfl rfl (by decide +kernel) ⟨Nat.le_of_ble_eq_true rfl, Nat.le_of_ble_eq_true rfl⟩) ⟨pr_blind, va_recv hK hP (ci := 2) rfl hk_71, (pr_S (ws := va_pl L f_55) (wA := va_pl L f_55) (tys := [(kT, .object RX1), (kI, .int), (kJ, .long)]) hP hK (hD.weaken (fun _ _ _ _ => trivial)) hst hS hFc).2⟩ rfl rfl hl.1 rfl (lv_room (Nat.le_of_ble_eq_true rfl)) dX2_findFrom_51 ⟨Nat.le_of_ble_eq_true rfl, Nat.le_of_ble_eq_true rfl⟩) hS (fun q _ h => hFc q h) hFc (fun r_72 u t H1 locs ht hvm hw hB hz1 hk1 hS => ?_)
                  obtain ⟨f_73, hPI, hrel, hP, hD9⟩ := hB
                  rw [ht] at hP
                  have hD := hD9.weaken (fun _ q _ h => hFc q.1 h)
                  generalize H1 = H at hP hS ⊢
                  obtain ⟨hFF1, hFS1⟩ := hrel
                  have hFF := hFF.tr hFF1
                  rcases hw with ⟨rfl, hp_74⟩ | ⟨rfl, hp_74⟩
                  · have hFS := hFS1 hp_74
                    have hl24 := hp_74
                    have hall := ad_all (o := (some y_58)) hall (fun _ h9 => by cases h9; exact fy_58)
                    refine lv_if_eq (tgt := 68) hx hb dX2_findFrom_54 (by decide) (fun c9 => absurd c9 (by decide)) (fun _ => ?_)
                    refine lv_aload_n hx hb dX2_findFrom_57 rfl (lv_at hl 2 rfl) ?_
                    refine lv_aload_n hx hb dX2_findFrom_58 rfl (lv_at hl 0 rfl) ?_
                    obtain ⟨cn_75, v_75, b_75, m_75, st_75, i_75, e_75, fv_75, fb_75, fm_75, fst_75, fi_75⟩ := hPI.a1 fy_20
                    obtain ⟨k_75, hk_75⟩ := va_plg fy_20.1 e_75
                    refine va_get (D := (dC, dI)) (ci := 1) (v := va_rf st_75) (C := RX1) (T := TX1) (N := 6) hx hb hts iX1_ hown hK hP k_75 hk_75 rfl 4 (by decide) (hts (.fieldLink RX2 201 "FieldLeaves$Thing" "strayBack" "LFieldLeaves$Thing;") (by decide +kernel)) (fun _ h9 => h9) rfl dX2_findFrom_59 ?_
                    rcases st_75 with _ | y_76
                    · refine W.eq (g2 := F0 m 62 ls [.null, .ref h0]) rfl ?_
                      have hN15 : g_lk f y_20 15 = none := by rw [← hFF.lk fy_20, th_lk e_75]; rfl
                      obtain ⟨q1_77, pc_77, c1_77, c2_77, c3_77, q5_77, fc_77, q7_77, mc_77, e_77, fq1_77, fc1_77, fc2_77, fc3_77, fq5_77, ffc_77, fq7_77, fmc_77⟩ := hPI.a2 hh0
                      obtain ⟨k_77, hk_77⟩ := va_plg hh0.1 e_77
                      refine va_calli (va_runV (b := h0) (As := [.null]) (rest := []) ⟨hx, hb, hml, hown, hts⟩ (u_X2_addFound_null l dC dI TT H.size kT kI kJ K L f_73 hPI h0 hh0) (cwV 1 hts gX2_findFrom_X2_addFound rfl rfl rfl (by decide +kernel) ⟨Nat.le_of_ble_eq_true rfl, Nat.le_of_ble_eq_true rfl⟩) ⟨pr_blind, va_recv hK hP (ci := 2) rfl hk_77, (pr_S (ws := va_pl L f_73) (wA := []) (tys := [(kT, .object RX1), (kI, .int), (kJ, .long)]) hP hK vd_nil hst hS (ro_free hS hA)).2⟩ rfl rfl hl.1 rfl (lv_room (Nat.le_of_ble_eq_true rfl)) dX2_findFrom_62 ⟨Nat.le_of_ble_eq_true rfl, Nat.le_of_ble_eq_true rfl⟩) hS (fun q _ h => (ro_free hS hA) q h) (ro_free hS hA) (fun r_78 u t H1 locs ht hvm hw hB hz1 hk1 hS => ?_)
                      have hP := ro_keep hP hk1
                      generalize H1 = H at hP hS ⊢
                      subst hw
                      have hFS : FS f_73 h0 (ad (ad (ad lc (some y_22)) (some y_58)) none) := hFS
                      have hl24 : (ad (ad (ad lc (some y_22)) (some y_58)) none).length ≤ 24 := hl24
                      have hall := ad_all (o := none) hall (fun _ h9 => by cases h9)
                      refine lv_if_ne (tgt := 70) hx hb dX2_findFrom_65 (by decide) (fun _ => ?_) (fun c9 => absurd c9 (by decide))
                      obtain ⟨i_79, ei_79⟩ : ∃ y : Int32, y = i2 + 1 := ⟨_, rfl⟩
                      refine lv_iinc (v := i_79) (lv' := [(2, .int i_79), (3, .ref y_20), (0, .ref h0), (1, .ref x0)]) hx hb dX2_findFrom_70 hl (k := 1) rfl (by rw [ei_79]; rfl) (by decide) rfl (fun ls hl => ?_)
                      have ki_79 := inc_toInt ei_79 (by omega)
                      refine lv_goto (tgt := 14) hx hb dX2_findFrom_73 (by decide) ?_
                      exact ih_14 i_79 f_73 _ _ _  (by omega) (by omega) ⟨(ad (ad (ad lc (some y_22)) (some y_58)) none), ⟨hFF, hFS⟩, ⟨hl24, hall⟩, by rw [← st3_is (l := lc) hN8 hN11 hN15, fd_step1 (i := i2) (by omega) (by omega) (fs_at hFu_14 (by omega) (by omega) eo_19) (by rw [st3_is hN8 hN11 hN15]; exact hl24) ki_79]; exact hfd⟩ hPI hP hD hS (lv_sub hl [0, 2, 3] rfl)
                    · have fy_76 := fst_75 y_76 rfl
                      refine W.eq (g2 := F0 m 62 ls [.ref y_76, .ref h0]) rfl ?_
                      have hN15 : g_lk f y_20 15 = (some y_76) := by rw [← hFF.lk fy_20, th_lk e_75]; rfl
                      have hFc := pl_free hD hS hA
                      obtain ⟨q1_80, pc_80, c1_80, c2_80, c3_80, q5_80, fc_80, q7_80, mc_80, e_80, fq1_80, fc1_80, fc2_80, fc3_80, fq5_80, ffc_80, fq7_80, fmc_80⟩ := hPI.a2 hh0
                      obtain ⟨k_80, hk_80⟩ := va_plg hh0.1 e_80
                      refine va_calli (va_runV (b := h0) (As := [.ref y_76]) (rest := []) ⟨hx, hb, hml, hown, hts⟩ (u_X2_addFound l dC dI TT H.size kT kI kJ K L f_73 hPI h0 hh0 y_76 fy_76 (ad (ad lc (some y_22)) (some y_58)) hFS hl24) (cwV 1 hts gX2_findFrom_X2_addFound rfl rfl rfl (by decide +kernel) ⟨Nat.le_of_ble_eq_true rfl, Nat.le_of_ble_eq_true rfl⟩) ⟨pr_blind, va_recv hK hP (ci := 2) rfl hk_80, (pr_S (ws := va_pl L f_73) (wA := va_pl L f_73) (tys := [(kT, .object RX1), (kI, .int), (kJ, .long)]) hP hK (hD.weaken (fun _ _ _ _ => trivial)) hst hS hFc).2⟩ rfl rfl hl.1 rfl (lv_room (Nat.le_of_ble_eq_true rfl)) dX2_findFrom_62 ⟨Nat.le_of_ble_eq_true rfl, Nat.le_of_ble_eq_true rfl⟩) hS (fun q _ h => hFc q h) hFc (fun r_81 u t H1 locs ht hvm hw hB hz1 hk1 hS => ?_)
                      obtain ⟨f_82, hPI, hrel, hP, hD9⟩ := hB
                      rw [ht] at hP
                      have hD := hD9.weaken (fun _ q _ h => hFc q.1 h)
                      generalize H1 = H at hP hS ⊢
                      obtain ⟨hFF1, hFS1⟩ := hrel
                      have hFF := hFF.tr hFF1
                      rcases hw with ⟨rfl, hp_83⟩ | ⟨rfl, hp_83⟩
                      · have hFS := hFS1 hp_83
                        have hl24 := hp_83
                        have hall := ad_all (o := (some y_76)) hall (fun _ h9 => by cases h9; exact fy_76)
                        refine lv_if_ne (tgt := 70) hx hb dX2_findFrom_65 (by decide) (fun _ => ?_) (fun c9 => absurd c9 (by decide))
                        obtain ⟨i_84, ei_84⟩ : ∃ y : Int32, y = i2 + 1 := ⟨_, rfl⟩
                        refine lv_iinc (v := i_84) (lv' := [(2, .int i_84), (3, .ref y_20), (0, .ref h0), (1, .ref x0)]) hx hb dX2_findFrom_70 hl (k := 1) rfl (by rw [ei_84]; rfl) (by decide) rfl (fun ls hl => ?_)
                        have ki_84 := inc_toInt ei_84 (by omega)
                        refine lv_goto (tgt := 14) hx hb dX2_findFrom_73 (by decide) ?_
                        exact ih_14 i_84 f_82 _ _ _  (by omega) (by omega) ⟨(ad (ad (ad lc (some y_22)) (some y_58)) (some y_76)), ⟨hFF, hFS⟩, ⟨hl24, hall⟩, by rw [← st3_is (l := lc) hN8 hN11 hN15, fd_step1 (i := i2) (by omega) (by omega) (fs_at hFu_14 (by omega) (by omega) eo_19) (by rw [st3_is hN8 hN11 hN15]; exact hl24) ki_84]; exact hfd⟩ hPI hP hD hS (lv_sub hl [0, 2, 3] rfl)
                      · refine lv_if_ne (tgt := 70) hx hb dX2_findFrom_65 (by decide) (fun c9 => absurd c9 (by decide)) (fun _ => ?_)
                        refine lv_iconst (v := 0) hx hb dX2_findFrom_68 (by decide) ?_
                        subst eQ
                        exact W.zret (v := 0) hx hb hr rfl (fun t ht hW => ⟨⟨0, (), rfl, Or.inr ⟨rfl, by rw [(hfd.symm.trans (fd_over1 (by omega) (by omega) (fs_at hFu_14 (by omega) (by omega) eo_19) (by rw [st3_is hN8 hN11 hN15]; exact hp_83)))]; exact fun h9 => by cases h9⟩, f_82, hPI, ⟨hFF, fun l h9 => by rw [(hfd.symm.trans (fd_over1 (by omega) (by omega) (fs_at hFu_14 (by omega) (by omega) eo_19) (by rw [st3_is hN8 hN11 hN15]; exact hp_83)))] at h9; cases h9⟩, by rw [ht]; exact hP, hD⟩, hS.F ht⟩) hS.2.2 dX2_findFrom_69
                  · refine lv_if_eq (tgt := 68) hx hb dX2_findFrom_54 (by decide) (fun _ => ?_) (fun c9 => absurd c9 (by decide))
                    refine lv_iconst (v := 0) hx hb dX2_findFrom_68 (by decide) ?_
                    subst eQ
                    exact W.zret (v := 0) hx hb hr rfl (fun t ht hW => ⟨⟨0, (), rfl, Or.inr ⟨rfl, by rw [(hfd.symm.trans (fd_over1 (by omega) (by omega) (fs_at hFu_14 (by omega) (by omega) eo_19) (st3_over2 (by rw [hN8, hN11]; omega))))]; exact fun h9 => by cases h9⟩, f_73, hPI, ⟨hFF, fun l h9 => by rw [(hfd.symm.trans (fd_over1 (by omega) (by omega) (fs_at hFu_14 (by omega) (by omega) eo_19) (st3_over2 (by rw [hN8, hN11]; omega))))] at h9; cases h9⟩, by rw [ht]; exact hP, hD⟩, hS.F ht⟩) hS.2.2 dX2_findFrom_69
              · refine lv_if_eq (tgt := 68) hx hb dX2_findFrom_43 (by decide) (fun _ => ?_) (fun c9 => absurd c9 (by decide))
                refine lv_iconst (v := 0) hx hb dX2_findFrom_68 (by decide) ?_
                subst eQ
                exact W.zret (v := 0) hx hb hr rfl (fun t ht hW => ⟨⟨0, (), rfl, Or.inr ⟨rfl, by rw [(hfd.symm.trans (fd_over1 (by omega) (by omega) (fs_at hFu_14 (by omega) (by omega) eo_19) (st3_over1 (by rw [hN8]; omega))))]; exact fun h9 => by cases h9⟩, f_55, hPI, ⟨hFF, fun l h9 => by rw [(hfd.symm.trans (fd_over1 (by omega) (by omega) (fs_at hFu_14 (by omega) (by omega) eo_19) (st3_over1 (by rw [hN8]; omega))))] at h9; cases h9⟩, by rw [ht]; exact hP, hD⟩, hS.F ht⟩) hS.2.2 dX2_findFrom_69
  exact loop_14 25 0 f_9 _ _ _  (by omega) (by omega) ⟨[x0], ⟨⟨hfr, (by unfold PHK; rw [es_f_9, e_1]; exact ⟨rfl, rfl, rfl, rfl, rfl, rfl, rfl, rfl⟩)⟩, FS.mk es_f_9 eq_11 (fs_one (g := fun _ => none) k1_ cl_0).1 (fs_one k1_ cl_0).2⟩, ⟨by simp, fun t ht => by rw [List.mem_singleton.mp ht]; exact hx0⟩, by rw [k0_]; rfl⟩ hPI hP hD hS hl

