set_option maxRecDepth 20000 in
theorem in_t_X2_clear_X2 : ∀ w ∈ u_ws RX2 TX2 9, w ∈ wsX2_clear := by decide +kernel
set_option maxRecDepth 100000 in
set_option maxHeartbeats 4000000 in
theorem t_X2_clear (l : Launch) (dC : Nat → ClassId) (dI : Nat → Nat → Nat) (TT : Nat × Nat × Nat) (sz : Nat) (kT kI kJ : ClassId) (K : Nat → Nat) (L : List Nat) (f : Nat → va_E) (hPI : PI kT kI kJ K L f) (h0 : Nat) (hh0 : isr K L 2 h0) (p0 : Int32) : Met l yX2_clear wsX2_clear ({ frames := 1, cells := 0, slots := 0, locals := 20 } : Room) (va_Pc [.ref h0, .int p0] (pr dC dI (va_pl L f) (va_pl L f) [(kT, .object RX1), (kI, .int), (kJ, .long)] sz TT)) (va_Qi (fun (r : Int32) (u : Unit) => True) (fun (_ : Unit) t => ∃ f2 : Nat → va_E, PI kT kI kJ K L f2 ∧ va_P (dC, dI) vwCl (va_pl L f2) t.heap ∧ va_D (va_A (va_pl L f) sz) (va_pl L f2)) (va_A (va_pl L f) sz)) 0 0 (va_A (va_pl L f) sz) := by
  refine Met.ofW (cc := cX2_clear) (maxL := 3) (ret := (some .int)) (by decide) rfl ?_
  intro p e s m args below meth c s₁ B hml hv
  obtain ⟨rfl, hsz, hP, hK, hD0, hst⟩ := hv
  have hx := B.exec
  have hb := B.bytes
  have hr := B.returns
  have hts := atoms_spec (ws := wsX2_clear) B.pre
  have hown : s.vm.findClass RX2 = some m.cls := findClass_of_methodNamed B.named
  have hlocks := B.notSynchronized
  have iX2_ := in_t_X2_clear_X2
  subst hsz
  have hD := hD0.self (sz := s.heap.size)
  generalize hAe : va_A (va_pl L f) s.heap.size = A at hD hst ⊢
  have hA : ∀ q : Nat, s.heap.size ≤ q → A q := fun q h => by rw [← hAe]; exact Or.inr h
  have hS : va_S A s.heap s.heap [] := va_S.rf
  have hl := lv_entry ([.ref h0, .int p0]) (n := 3) (Nat.le_of_ble_eq_true rfl)
  rw [lg_entry_eq]
  generalize (lg_sl ([.ref h0, .int p0]) ++ List.replicate (3 - (lg_sl ([.ref h0, .int p0])).length) Slot.unset).toArray = ls at hl ⊢
  have hl : lv_has ls 3 [(0, .ref h0), (1, .int p0)] := hl
  have km1_ : Int32.toInt (-1) = -1 := by decide
  have k0_ : Int32.toInt 0 = 0 := by decide
  have k1_ : Int32.toInt 1 = 1 := by decide
  refine lv_iload_n hx hb dX2_clear_0 rfl (lv_at hl 1 rfl) ?_
  refine va_calli (va_runS (As := [.int p0]) (rest := []) ⟨hx, hb, hml, hown, hts⟩ (c_X2_isSlot l dC dI TT s.heap.size p0) (va_cwS 1 hts gX2_clear_X2_isSlot rfl rfl rfl (by decide +kernel) ⟨Nat.le_of_ble_eq_true rfl, Nat.le_of_ble_eq_true rfl⟩) (pr_S (ws := []) (wA := []) (tys := []) vp_nil (hK.sub [] rfl) vd_nil hst hS (ro_free hS hA)) rfl rfl hl.1 rfl (lv_room (Nat.le_of_ble_eq_true rfl)) dX2_clear_1 ⟨Nat.le_of_ble_eq_true rfl, Nat.le_of_ble_eq_true rfl⟩) hS (fun q _ h => (ro_free hS hA) q h) (ro_free hS hA) (fun r_1 u t H1 locs ht hvm hw hB hz1 hk1 hS => ?_)
  have hP := ro_keep hP hk1
  generalize H1 = H at hP hS ⊢
  rcases hw with ⟨rfl, hp_2⟩ | ⟨rfl, hp_2⟩
  · refine lv_if_ne (tgt := 9) hx hb dX2_clear_4 (by decide) (fun _ => ?_) (fun c9 => absurd c9 (by decide))
    refine lv_aload_n hx hb dX2_clear_9 rfl (lv_at hl 0 rfl) ?_
    obtain ⟨q1_3, pc_3, c1_3, c2_3, c3_3, q5_3, fc_3, q7_3, mc_3, e_3, fq1_3, fc1_3, fc2_3, fc3_3, fq5_3, ffc_3, fq7_3, fmc_3⟩ := hPI.a2 hh0
    obtain ⟨k_3, hk_3⟩ := va_plg hh0.1 e_3
    refine va_get (D := (dC, dI)) (ci := 2) (v := .ref q1_3) (C := RX2) (T := TX2) (N := 9) hx hb hts iX2_ hown hK hP k_3 hk_3 rfl 0 (by decide) (hts (.fieldLink RX2 11 "FieldLeaves" "slots" "[LFieldLeaves$Thing;") (by decide +kernel)) (fun _ h9 => h9) rfl dX2_clear_10 ?_
    refine lv_iload_n hx hb dX2_clear_13 rfl (lv_at hl 1 rfl) ?_
    obtain ⟨g_4, e_4, fg_4⟩ := hPI.a5 fq1_3
    obtain ⟨k_4, hk_4⟩ := va_plg fq1_3.1 e_4
    have h_4 : vp_in p0 12 := (vp_in_iff.mpr (by constructor <;> omega))
    refine va_aldq hx hb hK hP k_4 0 hk_4 rfl h_4 dX2_clear_14 ?_
    have fo_4 := fg_4 _ (vp_lt h_4)
    generalize eo_4 : g_4 (Int32.toNatClampNeg p0) = o_4 at fo_4 ⊢
    rcases o_4 with _ | y_5
    · refine W.eq (g2 := F0 m 15 ls [.null]) rfl ?_
      refine lv_ifnonnullN hx hb dX2_clear_15 ?_
      refine lv_iconst (v := 0) hx hb dX2_clear_18 (by decide) ?_
      refine lv_goto (tgt := 23) hx hb dX2_clear_19 (by decide) ?_
      refine lv_istore_n (lv' := [(2, .int 0), (0, .ref h0), (1, .int p0)]) hx hb dX2_clear_23 rfl hl (by decide) rfl (fun ls hl => ?_)
      refine lv_aload_n hx hb dX2_clear_24 rfl (lv_at hl 1 rfl) ?_
      obtain ⟨k_6, hk_6⟩ := va_plg hh0.1 e_3
      refine va_get (D := (dC, dI)) (ci := 2) (v := .ref q1_3) (C := RX2) (T := TX2) (N := 9) hx hb hts iX2_ hown hK hP k_6 hk_6 rfl 0 (by decide) (hts (.fieldLink RX2 11 "FieldLeaves" "slots" "[LFieldLeaves$Thing;") (by decide +kernel)) (fun _ h9 => h9) rfl dX2_clear_25 ?_
      refine lv_iload_n hx hb dX2_clear_28 rfl (lv_at hl 2 rfl) ?_
      refine lv_null hx hb dX2_clear_29 ?_
      obtain ⟨k_7, hk_7⟩ := va_plg fq1_3.1 e_4
      have h_7 : vp_in p0 12 := (vp_in_iff.mpr (by constructor <;> omega))
      have hD9 := hD
      refine va_astqN hx hb hK hP hD hS k_7 0 hk_7 rfl h_7 dX2_clear_30 (fun H locs hP hD hS => ?_)
      have fg2_7 := upr_all (k := Int32.toNatClampNeg p0) (o := none) fg_4 (fun _ h9 => by cases h9)
      have hP : va_P (dC, dI) vwCl (va_pl L (va_up f q1_3 (.inl (kT, 12, .inr (.inr (.inr (.inr (va_up g_4 (Int32.toNatClampNeg p0) none)))))))) H := by rw [← va_pls hD9 fq1_3.1 hk_7 _]; exact hP
      have hD : va_D A (va_pl L (va_up f q1_3 (.inl (kT, 12, .inr (.inr (.inr (.inr (va_up g_4 (Int32.toNatClampNeg p0) none)))))))) := by rw [← va_pls hD9 fq1_3.1 hk_7 _]; exact hD
      have hPI := hPI.put (e := .inl (kT, 12, .inr (.inr (.inr (.inr (va_up g_4 (Int32.toNatClampNeg p0) none)))))) fq1_3 ⟨_, rfl, fg2_7⟩
      have es_f_8 : va_up f q1_3 (.inl (kT, 12, .inr (.inr (.inr (.inr (va_up g_4 (Int32.toNatClampNeg p0) none)))))) q1_3 = .inl (kT, 12, .inr (.inr (.inr (.inr (va_up g_4 (Int32.toNatClampNeg p0) none))))) := va_up_self _ _ _
      have eq_9 := (va_up_ne f (.inl (kT, 12, .inr (.inr (.inr (.inr (va_up g_4 (Int32.toNatClampNeg p0) none)))))) (isr_ne hh0 fq1_3 (by decide))).trans e_3
      generalize va_up f q1_3 (.inl (kT, 12, .inr (.inr (.inr (.inr (va_up g_4 (Int32.toNatClampNeg p0) none)))))) = f_8 at hP hD hPI es_f_8 eq_9
      refine lv_iload_n hx hb dX2_clear_31 rfl (lv_at hl 0 rfl) ?_
      exact W.iret (v := 0) hx hb hr (fun t ht hW => ⟨⟨0, (), rfl, trivial, f_8, hPI, by rw [ht]; exact hP, hD⟩, hS.F ht⟩) hS.2.2 dX2_clear_32
    · have fy_5 := fo_4 y_5 rfl
      refine W.eq (g2 := F0 m 15 ls [.ref y_5]) rfl ?_
      refine lv_ifnonnull (tgt := 22) hx hb dX2_clear_15 (by decide) ?_
      refine lv_iconst (v := 1) hx hb dX2_clear_22 (by decide) ?_
      refine lv_istore_n (lv' := [(2, .int 1), (0, .ref h0), (1, .int p0)]) hx hb dX2_clear_23 rfl hl (by decide) rfl (fun ls hl => ?_)
      refine lv_aload_n hx hb dX2_clear_24 rfl (lv_at hl 1 rfl) ?_
      obtain ⟨k_10, hk_10⟩ := va_plg hh0.1 e_3
      refine va_get (D := (dC, dI)) (ci := 2) (v := .ref q1_3) (C := RX2) (T := TX2) (N := 9) hx hb hts iX2_ hown hK hP k_10 hk_10 rfl 0 (by decide) (hts (.fieldLink RX2 11 "FieldLeaves" "slots" "[LFieldLeaves$Thing;") (by decide +kernel)) (fun _ h9 => h9) rfl dX2_clear_25 ?_
      refine lv_iload_n hx hb dX2_clear_28 rfl (lv_at hl 2 rfl) ?_
      refine lv_null hx hb dX2_clear_29 ?_
      obtain ⟨k_11, hk_11⟩ := va_plg fq1_3.1 e_4
      have h_11 : vp_in p0 12 := (vp_in_iff.mpr (by constructor <;> omega))
      have hD9 := hD
      refine va_astqN hx hb hK hP hD hS k_11 0 hk_11 rfl h_11 dX2_clear_30 (fun H locs hP hD hS => ?_)
      have fg2_11 := upr_all (k := Int32.toNatClampNeg p0) (o := none) fg_4 (fun _ h9 => by cases h9)
      have hP : va_P (dC, dI) vwCl (va_pl L (va_up f q1_3 (.inl (kT, 12, .inr (.inr (.inr (.inr (va_up g_4 (Int32.toNatClampNeg p0) none)))))))) H := by rw [← va_pls hD9 fq1_3.1 hk_11 _]; exact hP
      have hD : va_D A (va_pl L (va_up f q1_3 (.inl (kT, 12, .inr (.inr (.inr (.inr (va_up g_4 (Int32.toNatClampNeg p0) none)))))))) := by rw [← va_pls hD9 fq1_3.1 hk_11 _]; exact hD
      have hPI := hPI.put (e := .inl (kT, 12, .inr (.inr (.inr (.inr (va_up g_4 (Int32.toNatClampNeg p0) none)))))) fq1_3 ⟨_, rfl, fg2_11⟩
      have es_f_12 : va_up f q1_3 (.inl (kT, 12, .inr (.inr (.inr (.inr (va_up g_4 (Int32.toNatClampNeg p0) none)))))) q1_3 = .inl (kT, 12, .inr (.inr (.inr (.inr (va_up g_4 (Int32.toNatClampNeg p0) none))))) := va_up_self _ _ _
      have eq_13 := (va_up_ne f (.inl (kT, 12, .inr (.inr (.inr (.inr (va_up g_4 (Int32.toNatClampNeg p0) none)))))) (isr_ne hh0 fq1_3 (by decide))).trans e_3
      generalize va_up f q1_3 (.inl (kT, 12, .inr (.inr (.inr (.inr (va_up g_4 (Int32.toNatClampNeg p0) none)))))) = f_12 at hP hD hPI es_f_12 eq_13
      refine lv_iload_n hx hb dX2_clear_31 rfl (lv_at hl 0 rfl) ?_
      exact W.iret (v := 1) hx hb hr (fun t ht hW => ⟨⟨1, (), rfl, trivial, f_12, hPI, by rw [ht]; exact hP, hD⟩, hS.F ht⟩) hS.2.2 dX2_clear_32
  · refine lv_if_ne (tgt := 9) hx hb dX2_clear_4 (by decide) (fun c9 => absurd c9 (by decide)) (fun _ => ?_)
    refine lv_iconst (v := (-1)) hx hb dX2_clear_7 (by decide) ?_
    exact W.iret (v := (-1)) hx hb hr (fun t ht hW => ⟨⟨(-1), (), rfl, trivial, f, hPI, by rw [ht]; exact hP, hD⟩, hS.F ht⟩) hS.2.2 dX2_clear_8
set_option maxRecDepth 20000 in
theorem in_t_X2_set_X1 : ∀ w ∈ u_ws RX1 TX1 6, w ∈ wsX2_set := by decide +kernel
set_option maxRecDepth 20000 in
theorem in_t_X2_set_X2 : ∀ w ∈ u_ws RX2 TX2 9, w ∈ wsX2_set := by decide +kernel
set_option maxRecDepth 100000 in
set_option maxHeartbeats 4000000 in
theorem t_X2_set (l : Launch) (dC : Nat → ClassId) (dI : Nat → Nat → Nat) (TT : Nat × Nat × Nat) (sz : Nat) (kT kI kJ : ClassId) (K : Nat → Nat) (L : List Nat) (f : Nat → va_E) (hPI : PI kT kI kJ K L f) (h0 : Nat) (hh0 : isr K L 2 h0) (p0 : Int32) (p1 : Int32) (p2 : Int64) : Met l yX2_set wsX2_set ({ frames := 2, cells := 0, slots := 0, locals := 43 } : Room) (va_Pc [.ref h0, .int p0, .int p1, .long p2] (pr dC dI (va_pl L f) (va_pl L f) [(kT, .object RX1), (kI, .int), (kJ, .long)] sz TT)) (va_Qi (fun (r : Int32) (u : Unit) => True) (fun (_ : Unit) t => ∃ f2 : Nat → va_E, PI kT kI kJ K L f2 ∧ va_P (dC, dI) vwCl (va_pl L f2) t.heap ∧ va_D (va_A (va_pl L f) sz) (va_pl L f2)) (va_A (va_pl L f) sz)) 0 0 (va_A (va_pl L f) sz) := by
  refine Met.ofW (cc := cX2_set) (maxL := 7) (ret := (some .int)) (by decide) rfl ?_
  intro p e s m args below meth c s₁ B hml hv
  obtain ⟨rfl, hsz, hP, hK, hD0, hst⟩ := hv
  have hx := B.exec
  have hb := B.bytes
  have hr := B.returns
  have hts := atoms_spec (ws := wsX2_set) B.pre
  have hown : s.vm.findClass RX2 = some m.cls := findClass_of_methodNamed B.named
  have hlocks := B.notSynchronized
  have iX1_ := in_t_X2_set_X1
  have iX2_ := in_t_X2_set_X2
  subst hsz
  have hD := hD0.self (sz := s.heap.size)
  generalize hAe : va_A (va_pl L f) s.heap.size = A at hD hst ⊢
  have hA : ∀ q : Nat, s.heap.size ≤ q → A q := fun q h => by rw [← hAe]; exact Or.inr h
  have hS : va_S A s.heap s.heap [] := va_S.rf
  have hl := lv_entry ([.ref h0, .int p0, .int p1, .long p2]) (n := 7) (Nat.le_of_ble_eq_true rfl)
  rw [lg_entry_eq]
  generalize (lg_sl ([.ref h0, .int p0, .int p1, .long p2]) ++ List.replicate (7 - (lg_sl ([.ref h0, .int p0, .int p1, .long p2])).length) Slot.unset).toArray = ls at hl ⊢
  have hl : lv_has ls 7 [(0, .ref h0), (1, .int p0), (2, .int p1), (3, .long p2)] := hl
  have km17_ : Int32.toInt (-17) = -17 := by decide
  have km11_ : Int32.toInt (-11) = -11 := by decide
  have km1_ : Int32.toInt (-1) = -1 := by decide
  have k0_ : Int32.toInt 0 = 0 := by decide
  have k1_ : Int32.toInt 1 = 1 := by decide
  refine lv_iload_n hx hb dX2_set_0 rfl (lv_at hl 1 rfl) ?_
  refine va_calli (va_runS (As := [.int p0]) (rest := []) ⟨hx, hb, hml, hown, hts⟩ (c_X2_isSlot l dC dI TT s.heap.size p0) (va_cwS 1 hts gX2_set_X2_isSlot rfl rfl rfl (by decide +kernel) ⟨Nat.le_of_ble_eq_true rfl, Nat.le_of_ble_eq_true rfl⟩) (pr_S (ws := []) (wA := []) (tys := []) vp_nil (hK.sub [] rfl) vd_nil hst hS (ro_free hS hA)) rfl rfl hl.1 rfl (lv_room (Nat.le_of_ble_eq_true rfl)) dX2_set_1 ⟨Nat.le_of_ble_eq_true rfl, Nat.le_of_ble_eq_true rfl⟩) hS (fun q _ h => (ro_free hS hA) q h) (ro_free hS hA) (fun r_1 u t H1 locs ht hvm hw hB hz1 hk1 hS => ?_)
  have hP := ro_keep hP hk1
  generalize H1 = H at hP hS ⊢
  rcases hw with ⟨rfl, hp_2⟩ | ⟨rfl, hp_2⟩
  · refine lv_if_eq (tgt := 14) hx hb dX2_set_4 (by decide) (fun c9 => absurd c9 (by decide)) (fun _ => ?_)
    refine lv_iload_n hx hb dX2_set_7 rfl (lv_at hl 2 rfl) ?_
    refine va_calli (va_runS (As := [.int p1]) (rest := []) ⟨hx, hb, hml, hown, hts⟩ (c_X2_isValueField l dC dI TT H.size p1) (va_cwS 1 hts gX2_set_X2_isValueField rfl rfl rfl (by decide +kernel) ⟨Nat.le_of_ble_eq_true rfl, Nat.le_of_ble_eq_true rfl⟩) (pr_S (ws := []) (wA := []) (tys := []) vp_nil (hK.sub [] rfl) vd_nil hst hS (ro_free hS hA)) rfl rfl hl.1 rfl (lv_room (Nat.le_of_ble_eq_true rfl)) dX2_set_8 ⟨Nat.le_of_ble_eq_true rfl, Nat.le_of_ble_eq_true rfl⟩) hS (fun q _ h => (ro_free hS hA) q h) (ro_free hS hA) (fun r_3 u t H1 locs ht hvm hw hB hz1 hk1 hS => ?_)
    have hP := ro_keep hP hk1
    generalize H1 = H at hP hS ⊢
    rcases hw with ⟨rfl, hp_4⟩ | ⟨rfl, hp_4⟩
    · refine lv_if_ne (tgt := 16) hx hb dX2_set_11 (by decide) (fun _ => ?_) (fun c9 => absurd c9 (by decide))
      refine lv_aload_n hx hb dX2_set_16 rfl (lv_at hl 0 rfl) ?_
      obtain ⟨q1_5, pc_5, c1_5, c2_5, c3_5, q5_5, fc_5, q7_5, mc_5, e_5, fq1_5, fc1_5, fc2_5, fc3_5, fq5_5, ffc_5, fq7_5, fmc_5⟩ := hPI.a2 hh0
      obtain ⟨k_5, hk_5⟩ := va_plg hh0.1 e_5
      refine va_get (D := (dC, dI)) (ci := 2) (v := .ref q1_5) (C := RX2) (T := TX2) (N := 9) hx hb hts iX2_ hown hK hP k_5 hk_5 rfl 0 (by decide) (hts (.fieldLink RX2 11 "FieldLeaves" "slots" "[LFieldLeaves$Thing;") (by decide +kernel)) (fun _ h9 => h9) rfl dX2_set_17 ?_
      refine lv_iload_n hx hb dX2_set_20 rfl (lv_at hl 1 rfl) ?_
      obtain ⟨g_6, e_6, fg_6⟩ := hPI.a5 fq1_5
      obtain ⟨k_6, hk_6⟩ := va_plg fq1_5.1 e_6
      have h_6 : vp_in p0 12 := (vp_in_iff.mpr (by constructor <;> omega))
      refine va_aldq hx hb hK hP k_6 0 hk_6 rfl h_6 dX2_set_21 ?_
      have fo_6 := fg_6 _ (vp_lt h_6)
      generalize eo_6 : g_6 (Int32.toNatClampNeg p0) = o_6 at fo_6 ⊢
      rcases o_6 with _ | y_7
      · refine W.eq (g2 := F0 m 22 ls [.null]) rfl ?_
        refine lv_astoreN (lv' := [(5, .null), (0, .ref h0), (1, .int p0), (2, .int p1), (3, .long p2)]) hx hb dX2_set_22 hl (by decide) rfl (fun ls hl => ?_)
        refine lv_aloadN hx hb dX2_set_24 (lv_at hl 0 rfl) ?_
        refine va_gets (v := .ref TT.2.1) hx hb hst.zO hS hown (hts (.fieldLink RX2 57 "FieldLeaves" "OWNER" "[I") (by decide +kernel)) (fun _ h9 => h9) dX2_set_26 ?_
        refine lv_iload_n hx hb dX2_set_29 rfl (lv_at hl 3 rfl) ?_
        have h_8 : vp_in p1 17 := (vp_in_iff.mpr (by constructor <;> omega))
        refine va_ti hx hb hst.tO hS h_8 (v := .int (OWNERt (Int32.toNatClampNeg p1))) rfl dX2_set_30 ?_
        have fh_8 := OWNERt_is h_8
        refine va_calli (va_runS (As := [.null, .int (OWNERt (Int32.toNatClampNeg p1))]) (rest := []) ⟨hx, hb, hml, hown, hts⟩ (c_X2_failureAs_null l dC dI TT H.size (OWNERt (Int32.toNatClampNeg p1))) (va_cwS 2 hts gX2_set_X2_failureAs rfl rfl rfl (by decide +kernel) ⟨Nat.le_of_ble_eq_true rfl, Nat.le_of_ble_eq_true rfl⟩) (pr_S (ws := []) (wA := []) (tys := []) vp_nil (hK.sub [] rfl) vd_nil hst hS (ro_free hS hA)) rfl rfl hl.1 rfl (lv_room (Nat.le_of_ble_eq_true rfl)) dX2_set_31 ⟨Nat.le_of_ble_eq_true rfl, Nat.le_of_ble_eq_true rfl⟩) hS (fun q _ h => (ro_free hS hA) q h) (ro_free hS hA) (fun r_9 u t H1 locs ht hvm hw hB hz1 hk1 hS => ?_)
        have hP := ro_keep hP hk1
        generalize H1 = H at hP hS ⊢
        subst hw
        refine lv_istore (lv' := [(6, .int (-11)), (5, .null), (0, .ref h0), (1, .int p0), (2, .int p1), (3, .long p2)]) hx hb dX2_set_34 hl (by decide) rfl (fun ls hl => ?_)
        refine lv_iload hx hb dX2_set_36 (lv_at hl 0 rfl) ?_
        refine lv_if_eq (tgt := 44) hx hb dX2_set_38 (by decide) (fun c9 => absurd c9 (by decide)) (fun _ => ?_)
        refine lv_iload hx hb dX2_set_41 (lv_at hl 0 rfl) ?_
        exact W.iret (v := (-11)) hx hb hr (fun t ht hW => ⟨⟨(-11), (), rfl, trivial, f, hPI, by rw [ht]; exact hP, hD⟩, hS.F ht⟩) hS.2.2 dX2_set_43
      · have fy_7 := fo_6 y_7 rfl
        refine W.eq (g2 := F0 m 22 ls [.ref y_7]) rfl ?_
        refine lv_astore (lv' := [(5, .ref y_7), (0, .ref h0), (1, .int p0), (2, .int p1), (3, .long p2)]) hx hb dX2_set_22 hl (by decide) rfl (fun ls hl => ?_)
        refine lv_aload hx hb dX2_set_24 (lv_at hl 0 rfl) ?_
        refine va_gets (v := .ref TT.2.1) hx hb hst.zO hS hown (hts (.fieldLink RX2 57 "FieldLeaves" "OWNER" "[I") (by decide +kernel)) (fun _ h9 => h9) dX2_set_26 ?_
        refine lv_iload_n hx hb dX2_set_29 rfl (lv_at hl 3 rfl) ?_
        have h_10 : vp_in p1 17 := (vp_in_iff.mpr (by constructor <;> omega))
        refine va_ti hx hb hst.tO hS h_10 (v := .int (OWNERt (Int32.toNatClampNeg p1))) rfl dX2_set_30 ?_
        have fh_10 := OWNERt_is h_10
        refine va_calli (va_runS (As := [.ref y_7, .int (OWNERt (Int32.toNatClampNeg p1))]) (rest := []) ⟨hx, hb, hml, hown, hts⟩ (t_X2_failureAs l dC dI TT H.size kT kI kJ K L f hPI y_7 fy_7 (OWNERt (Int32.toNatClampNeg p1))) (va_cwS 2 hts gX2_set_X2_failureAs rfl rfl rfl (by decide +kernel) ⟨Nat.le_of_ble_eq_true rfl, Nat.le_of_ble_eq_true rfl⟩) (pr_S (ws := va_pl L f) (wA := []) (tys := [(kT, .object RX1), (kI, .int), (kJ, .long)]) hP hK vd_nil hst hS (ro_free hS hA)) rfl rfl hl.1 rfl (lv_room (Nat.le_of_ble_eq_true rfl)) dX2_set_31 ⟨Nat.le_of_ble_eq_true rfl, Nat.le_of_ble_eq_true rfl⟩) hS (fun q _ h => (ro_free hS hA) q h) (ro_free hS hA) (fun r_11 u t H1 locs ht hvm hw hB hz1 hk1 hS => ?_)
        have hP := ro_keep hP hk1
        generalize H1 = H at hP hS ⊢
        refine lv_istore (lv' := [(6, .int r_11), (5, .ref y_7), (0, .ref h0), (1, .int p0), (2, .int p1), (3, .long p2)]) hx hb dX2_set_34 hl (by decide) rfl (fun ls hl => ?_)
        refine lv_iload hx hb dX2_set_36 (lv_at hl 0 rfl) ?_
        refine lv_if_eq (tgt := 44) hx hb dX2_set_38 (by decide) (fun c_12 => ?_) (fun c_12 => ?_)
        · have c_12 := congrArg Int32.toInt c_12
          refine lv_iload_n hx hb dX2_set_44 rfl (lv_at hl 4 rfl) ?_
          refine va_calli (va_runS (As := [.int p1]) (rest := []) ⟨hx, hb, hml, hown, hts⟩ (c_X2_isFinal l dC dI TT H.size p1) (va_cwS 1 hts gX2_set_X2_isFinal rfl rfl rfl (by decide +kernel) ⟨Nat.le_of_ble_eq_true rfl, Nat.le_of_ble_eq_true rfl⟩) (pr_S (ws := []) (wA := []) (tys := []) vp_nil (hK.sub [] rfl) vd_nil hst hS (ro_free hS hA)) rfl rfl hl.1 rfl (lv_room (Nat.le_of_ble_eq_true rfl)) dX2_set_45 ⟨Nat.le_of_ble_eq_true rfl, Nat.le_of_ble_eq_true rfl⟩) hS (fun q _ h => (ro_free hS hA) q h) (ro_free hS hA) (fun r_13 u t H1 locs ht hvm hw hB hz1 hk1 hS => ?_)
          have hP := ro_keep hP hk1
          generalize H1 = H at hP hS ⊢
          rcases hw with ⟨rfl, hp_14⟩ | ⟨rfl, hp_14⟩
          · refine lv_if_eq (tgt := 54) hx hb dX2_set_48 (by decide) (fun c9 => absurd c9 (by decide)) (fun _ => ?_)
            refine lv_bipush (v := (-17)) hx hb dX2_set_51 (by decide) ?_
            exact W.iret (v := (-17)) hx hb hr (fun t ht hW => ⟨⟨(-17), (), rfl, trivial, f, hPI, by rw [ht]; exact hP, hD⟩, hS.F ht⟩) hS.2.2 dX2_set_53
          · refine lv_if_eq (tgt := 54) hx hb dX2_set_48 (by decide) (fun _ => ?_) (fun c9 => absurd c9 (by decide))
            refine lv_aload hx hb dX2_set_54 (lv_at hl 1 rfl) ?_
            obtain ⟨cn_15, v_15, b_15, m_15, st_15, i_15, e_15, fv_15, fb_15, fm_15, fst_15, fi_15⟩ := hPI.a1 fy_7
            obtain ⟨k_15, hk_15⟩ := va_plg fy_7.1 e_15
            refine va_get (D := (dC, dI)) (ci := 1) (v := .ref v_15) (C := RX1) (T := TX1) (N := 6) hx hb hts iX1_ hown hK hP k_15 hk_15 rfl 1 (by decide) (hts (.fieldLink RX2 65 "FieldLeaves$Thing" "values" "[J") (by decide +kernel)) (fun _ h9 => h9) rfl dX2_set_56 ?_
            refine lv_iload_n hx hb dX2_set_59 rfl (lv_at hl 4 rfl) ?_
            refine lv_iload_n hx hb dX2_set_60 rfl (lv_at hl 4 rfl) ?_
            refine lv_lload_n hx hb dX2_set_61 rfl (lv_at hl 5 rfl) ?_
            refine va_calll (va_runS (As := [.int p1, .long p2]) (rest := [.int p1, .ref v_15]) ⟨hx, hb, hml, hown, hts⟩ (t_X2_asTold l dC dI TT H.size kT kI kJ K L f hPI p1 p2 (by constructor <;> omega)) (va_cwS 2 hts gX2_set_X2_asTold rfl rfl rfl (by decide +kernel) ⟨Nat.le_of_ble_eq_true rfl, Nat.le_of_ble_eq_true rfl⟩) (pr_S (ws := va_pl L f) (wA := []) (tys := [(kT, .object RX1), (kI, .int), (kJ, .long)]) hP hK vd_nil hst hS (ro_free hS hA)) rfl rfl hl.1 rfl (lv_room (Nat.le_of_ble_eq_true rfl)) dX2_set_62 ⟨Nat.le_of_ble_eq_true rfl, Nat.le_of_ble_eq_true rfl⟩) hS (fun q _ h => (ro_free hS hA) q h) (ro_free hS hA) (fun r_16 u t H1 locs ht hvm hw hB hz1 hk1 hS => ?_)
            have hP := ro_keep hP hk1
            generalize H1 = H at hP hS ⊢
            obtain ⟨g_17, e_17⟩ := hPI.a3 fv_15
            obtain ⟨k_17, hk_17⟩ := va_plg fv_15.1 e_17
            have h_17 : vp_in p1 17 := (vp_in_iff.mpr (by constructor <;> omega))
            have hD9 := hD
            refine va_last hx hb hK hP hD hS k_17 2 hk_17 rfl h_17 dX2_set_65 (fun H locs hP hD hS => ?_)
            have hP : va_P (dC, dI) vwCl (va_pl L (va_up f v_15 (.inl (kJ, 17, .inr (.inl (vp_updL g_17 (Int32.toNatClampNeg p1) r_16)))))) H := by rw [← va_pls hD9 fv_15.1 hk_17 _]; exact hP
            have hD : va_D A (va_pl L (va_up f v_15 (.inl (kJ, 17, .inr (.inl (vp_updL g_17 (Int32.toNatClampNeg p1) r_16)))))) := by rw [← va_pls hD9 fv_15.1 hk_17 _]; exact hD
            have hPI := hPI.put (e := .inl (kJ, 17, .inr (.inl (vp_updL g_17 (Int32.toNatClampNeg p1) r_16)))) fv_15 ⟨_, rfl⟩
            have es_f_18 : va_up f v_15 (.inl (kJ, 17, .inr (.inl (vp_updL g_17 (Int32.toNatClampNeg p1) r_16)))) v_15 = .inl (kJ, 17, .inr (.inl (vp_updL g_17 (Int32.toNatClampNeg p1) r_16))) := va_up_self _ _ _
            have eq_19 := (va_up_ne f (.inl (kJ, 17, .inr (.inl (vp_updL g_17 (Int32.toNatClampNeg p1) r_16)))) (isr_ne hh0 fv_15 (by decide))).trans e_5
            have eq_20 := (va_up_ne f (.inl (kJ, 17, .inr (.inl (vp_updL g_17 (Int32.toNatClampNeg p1) r_16)))) (isr_ne fy_7 fv_15 (by decide))).trans e_15
            have eq_21 := (va_up_ne f (.inl (kJ, 17, .inr (.inl (vp_updL g_17 (Int32.toNatClampNeg p1) r_16)))) (isr_ne fq1_5 fv_15 (by decide))).trans e_6
            generalize va_up f v_15 (.inl (kJ, 17, .inr (.inl (vp_updL g_17 (Int32.toNatClampNeg p1) r_16)))) = f_18 at hP hD hPI es_f_18 eq_19 eq_20 eq_21
            refine lv_iconst (v := 1) hx hb dX2_set_66 (by decide) ?_
            exact W.iret (v := 1) hx hb hr (fun t ht hW => ⟨⟨1, (), rfl, trivial, f_18, hPI, by rw [ht]; exact hP, hD⟩, hS.F ht⟩) hS.2.2 dX2_set_67
        · have c_12 := mt Int32.toInt_inj.mp c_12
          refine lv_iload hx hb dX2_set_41 (lv_at hl 0 rfl) ?_
          exact W.iret (v := r_11) hx hb hr (fun t ht hW => ⟨⟨r_11, (), rfl, trivial, f, hPI, by rw [ht]; exact hP, hD⟩, hS.F ht⟩) hS.2.2 dX2_set_43
    · refine lv_if_ne (tgt := 16) hx hb dX2_set_11 (by decide) (fun c9 => absurd c9 (by decide)) (fun _ => ?_)
      refine lv_iconst (v := (-1)) hx hb dX2_set_14 (by decide) ?_
      exact W.iret (v := (-1)) hx hb hr (fun t ht hW => ⟨⟨(-1), (), rfl, trivial, f, hPI, by rw [ht]; exact hP, hD⟩, hS.F ht⟩) hS.2.2 dX2_set_15
  · refine lv_if_eq (tgt := 14) hx hb dX2_set_4 (by decide) (fun _ => ?_) (fun c9 => absurd c9 (by decide))
    refine lv_iconst (v := (-1)) hx hb dX2_set_14 (by decide) ?_
    exact W.iret (v := (-1)) hx hb hr (fun t ht hW => ⟨⟨(-1), (), rfl, trivial, f, hPI, by rw [ht]; exact hP, hD⟩, hS.F ht⟩) hS.2.2 dX2_set_15
set_option maxRecDepth 20000 in
theorem in_t_X2_link_X2 : ∀ w ∈ u_ws RX2 TX2 9, w ∈ wsX2_link := by decide +kernel
set_option maxRecDepth 100000 in
set_option maxHeartbeats 4000000 in
theorem t_X2_link (l : Launch) (dC : Nat → ClassId) (dI : Nat → Nat → Nat) (TT : Nat × Nat × Nat) (sz : Nat) (kT kI kJ : ClassId) (K : Nat → Nat) (L : List Nat) (f : Nat → va_E) (hPI : PI kT kI kJ K L f) (h0 : Nat) (hh0 : isr K L 2 h0) (p0 : Int32) (p1 : Int32) (p2 : Int32) : Met l yX2_link wsX2_link ({ frames := 2, cells := 0, slots := 0, locals := 40 } : Room) (va_Pc [.ref h0, .int p0, .int p1, .int p2] (pr dC dI (va_pl L f) (va_pl L f) [(kT, .object RX1), (kI, .int), (kJ, .long)] sz TT)) (va_Qi (fun (r : Int32) (u : Unit) => True) (fun (_ : Unit) t => ∃ f2 : Nat → va_E, PI kT kI kJ K L f2 ∧ va_P (dC, dI) vwCl (va_pl L f2) t.heap ∧ va_D (va_A (va_pl L f) sz) (va_pl L f2)) (va_A (va_pl L f) sz)) 0 0 (va_A (va_pl L f) sz) := by
  refine Met.ofW (cc := cX2_link) (maxL := 6) (ret := (some .int)) (by decide) rfl ?_
  intro p e s m args below meth c s₁ B hml hv
  obtain ⟨rfl, hsz, hP, hK, hD0, hst⟩ := hv
  have hx := B.exec
  have hb := B.bytes
  have hr := B.returns
  have hts := atoms_spec (ws := wsX2_link) B.pre
  have hown : s.vm.findClass RX2 = some m.cls := findClass_of_methodNamed B.named
  have hlocks := B.notSynchronized
  have iX2_ := in_t_X2_link_X2
  subst hsz
  have hD := hD0.self (sz := s.heap.size)
  generalize hAe : va_A (va_pl L f) s.heap.size = A at hD hst ⊢
  have hA : ∀ q : Nat, s.heap.size ≤ q → A q := fun q h => by rw [← hAe]; exact Or.inr h
  have hS : va_S A s.heap s.heap [] := va_S.rf
  have hl := lv_entry ([.ref h0, .int p0, .int p1, .int p2]) (n := 6) (Nat.le_of_ble_eq_true rfl)
  rw [lg_entry_eq]
  generalize (lg_sl ([.ref h0, .int p0, .int p1, .int p2]) ++ List.replicate (6 - (lg_sl ([.ref h0, .int p0, .int p1, .int p2])).length) Slot.unset).toArray = ls at hl ⊢
  have hl : lv_has ls 6 [(0, .ref h0), (1, .int p0), (2, .int p1), (3, .int p2)] := hl
  have km14_ : Int32.toInt (-14) = -14 := by decide
  have km11_ : Int32.toInt (-11) = -11 := by decide
  have km1_ : Int32.toInt (-1) = -1 := by decide
  have k1_ : Int32.toInt 1 = 1 := by decide
  refine lv_iload_n hx hb dX2_link_0 rfl (lv_at hl 1 rfl) ?_
  refine va_calli (va_runS (As := [.int p0]) (rest := []) ⟨hx, hb, hml, hown, hts⟩ (c_X2_isSlot l dC dI TT s.heap.size p0) (va_cwS 1 hts gX2_link_X2_isSlot rfl rfl rfl (by decide +kernel) ⟨Nat.le_of_ble_eq_true rfl, Nat.le_of_ble_eq_true rfl⟩) (pr_S (ws := []) (wA := []) (tys := []) vp_nil (hK.sub [] rfl) vd_nil hst hS (ro_free hS hA)) rfl rfl hl.1 rfl (lv_room (Nat.le_of_ble_eq_true rfl)) dX2_link_1 ⟨Nat.le_of_ble_eq_true rfl, Nat.le_of_ble_eq_true rfl⟩) hS (fun q _ h => (ro_free hS hA) q h) (ro_free hS hA) (fun r_1 u t H1 locs ht hvm hw hB hz1 hk1 hS => ?_)
  have hP := ro_keep hP hk1
  generalize H1 = H at hP hS ⊢
  rcases hw with ⟨rfl, hp_2⟩ | ⟨rfl, hp_2⟩
  · refine lv_if_eq (tgt := 21) hx hb dX2_link_4 (by decide) (fun c9 => absurd c9 (by decide)) (fun _ => ?_)
    refine lv_iload_n hx hb dX2_link_7 rfl (lv_at hl 2 rfl) ?_
    refine va_calli (va_runS (As := [.int p1]) (rest := []) ⟨hx, hb, hml, hown, hts⟩ (c_X2_isLinkField l dC dI TT H.size p1) (va_cwS 1 hts gX2_link_X2_isLinkField rfl rfl rfl (by decide +kernel) ⟨Nat.le_of_ble_eq_true rfl, Nat.le_of_ble_eq_true rfl⟩) (pr_S (ws := []) (wA := []) (tys := []) vp_nil (hK.sub [] rfl) vd_nil hst hS (ro_free hS hA)) rfl rfl hl.1 rfl (lv_room (Nat.le_of_ble_eq_true rfl)) dX2_link_8 ⟨Nat.le_of_ble_eq_true rfl, Nat.le_of_ble_eq_true rfl⟩) hS (fun q _ h => (ro_free hS hA) q h) (ro_free hS hA) (fun r_3 u t H1 locs ht hvm hw hB hz1 hk1 hS => ?_)
    have hP := ro_keep hP hk1
    generalize H1 = H at hP hS ⊢
    rcases hw with ⟨rfl, hp_4⟩ | ⟨rfl, hp_4⟩
    · refine lv_if_eq (tgt := 21) hx hb dX2_link_11 (by decide) (fun c9 => absurd c9 (by decide)) (fun _ => ?_)
      refine lv_iload_n hx hb dX2_link_14 rfl (lv_at hl 3 rfl) ?_
      refine va_calli (va_runS (As := [.int p2]) (rest := []) ⟨hx, hb, hml, hown, hts⟩ (c_X2_isSlot l dC dI TT H.size p2) (va_cwS 1 hts gX2_link_X2_isSlot rfl rfl rfl (by decide +kernel) ⟨Nat.le_of_ble_eq_true rfl, Nat.le_of_ble_eq_true rfl⟩) (pr_S (ws := []) (wA := []) (tys := []) vp_nil (hK.sub [] rfl) vd_nil hst hS (ro_free hS hA)) rfl rfl hl.1 rfl (lv_room (Nat.le_of_ble_eq_true rfl)) dX2_link_15 ⟨Nat.le_of_ble_eq_true rfl, Nat.le_of_ble_eq_true rfl⟩) hS (fun q _ h => (ro_free hS hA) q h) (ro_free hS hA) (fun r_5 u t H1 locs ht hvm hw hB hz1 hk1 hS => ?_)
      have hP := ro_keep hP hk1
      generalize H1 = H at hP hS ⊢
      rcases hw with ⟨rfl, hp_6⟩ | ⟨rfl, hp_6⟩
      · refine lv_if_ne (tgt := 23) hx hb dX2_link_18 (by decide) (fun _ => ?_) (fun c9 => absurd c9 (by decide))
        refine lv_aload_n hx hb dX2_link_23 rfl (lv_at hl 0 rfl) ?_
        obtain ⟨q1_7, pc_7, c1_7, c2_7, c3_7, q5_7, fc_7, q7_7, mc_7, e_7, fq1_7, fc1_7, fc2_7, fc3_7, fq5_7, ffc_7, fq7_7, fmc_7⟩ := hPI.a2 hh0
        obtain ⟨k_7, hk_7⟩ := va_plg hh0.1 e_7
        refine va_get (D := (dC, dI)) (ci := 2) (v := .ref q1_7) (C := RX2) (T := TX2) (N := 9) hx hb hts iX2_ hown hK hP k_7 hk_7 rfl 0 (by decide) (hts (.fieldLink RX2 11 "FieldLeaves" "slots" "[LFieldLeaves$Thing;") (by decide +kernel)) (fun _ h9 => h9) rfl dX2_link_24 ?_
        refine lv_iload_n hx hb dX2_link_27 rfl (lv_at hl 1 rfl) ?_
        obtain ⟨g_8, e_8, fg_8⟩ := hPI.a5 fq1_7
        obtain ⟨k_8, hk_8⟩ := va_plg fq1_7.1 e_8
        have h_8 : vp_in p0 12 := (vp_in_iff.mpr (by constructor <;> omega))
        refine va_aldq hx hb hK hP k_8 0 hk_8 rfl h_8 dX2_link_28 ?_
        have fo_8 := fg_8 _ (vp_lt h_8)
        generalize eo_8 : g_8 (Int32.toNatClampNeg p0) = o_8 at fo_8 ⊢
        rcases o_8 with _ | y_9
        · refine W.eq (g2 := F0 m 29 ls [.null]) rfl ?_
          refine lv_astoreN (lv' := [(4, .null), (0, .ref h0), (1, .int p0), (2, .int p1), (3, .int p2)]) hx hb dX2_link_29 hl (by decide) rfl (fun ls hl => ?_)
          refine lv_aload_n hx hb dX2_link_31 rfl (lv_at hl 1 rfl) ?_
          obtain ⟨k_10, hk_10⟩ := va_plg hh0.1 e_7
          refine va_get (D := (dC, dI)) (ci := 2) (v := .ref q1_7) (C := RX2) (T := TX2) (N := 9) hx hb hts iX2_ hown hK hP k_10 hk_10 rfl 0 (by decide) (hts (.fieldLink RX2 11 "FieldLeaves" "slots" "[LFieldLeaves$Thing;") (by decide +kernel)) (fun _ h9 => h9) rfl dX2_link_32 ?_
          refine lv_iload_n hx hb dX2_link_35 rfl (lv_at hl 4 rfl) ?_
          obtain ⟨k_11, hk_11⟩ := va_plg fq1_7.1 e_8
          have h_11 : vp_in p2 12 := (vp_in_iff.mpr (by constructor <;> omega))
          refine va_aldq hx hb hK hP k_11 0 hk_11 rfl h_11 dX2_link_36 ?_
          have fo_11 := fg_8 _ (vp_lt h_11)
          generalize eo_11 : g_8 (Int32.toNatClampNeg p2) = o_11 at fo_11 ⊢
          rcases o_11 with _ | y_12
          · refine W.eq (g2 := F0 m 37 ls [.null]) rfl ?_
            refine lv_astoreN (lv' := [(5, .null), (4, .null), (0, .ref h0), (1, .int p0), (2, .int p1), (3, .int p2)]) hx hb dX2_link_37 hl (by decide) rfl (fun ls hl => ?_)
            refine lv_aloadN hx hb dX2_link_39 (lv_at hl 1 rfl) ?_
            refine lv_ifnullN (tgt := 60) hx hb dX2_link_41 (by decide) ?_
            refine lv_aloadN hx hb dX2_link_60 (lv_at hl 0 rfl) ?_
            refine lv_ifnullN (tgt := 80) hx hb dX2_link_62 (by decide) ?_
            refine lv_aloadN hx hb dX2_link_80 (lv_at hl 1 rfl) ?_
            refine lv_ifnonnullN hx hb dX2_link_82 ?_
            refine lv_bipush (v := (-11)) hx hb dX2_link_85 (by decide) ?_
            exact W.iret (v := (-11)) hx hb hr (fun t ht hW => ⟨⟨(-11), (), rfl, trivial, f, hPI, by rw [ht]; exact hP, hD⟩, hS.F ht⟩) hS.2.2 dX2_link_87
          · have fy_12 := fo_11 y_12 rfl
            refine W.eq (g2 := F0 m 37 ls [.ref y_12]) rfl ?_
            refine lv_astore (lv' := [(5, .ref y_12), (4, .null), (0, .ref h0), (1, .int p0), (2, .int p1), (3, .int p2)]) hx hb dX2_link_37 hl (by decide) rfl (fun ls hl => ?_)
            refine lv_aloadN hx hb dX2_link_39 (lv_at hl 1 rfl) ?_
            refine lv_ifnullN (tgt := 60) hx hb dX2_link_41 (by decide) ?_
            refine lv_aload hx hb dX2_link_60 (lv_at hl 0 rfl) ?_
            refine lv_ifnull hx hb dX2_link_62 ?_
            refine lv_aload hx hb dX2_link_65 (lv_at hl 0 rfl) ?_
            refine lv_iload_n hx hb dX2_link_67 rfl (lv_at hl 4 rfl) ?_
            refine va_calli (va_runS (As := [.int p1]) (rest := [.ref y_12]) ⟨hx, hb, hml, hown, hts⟩ (c_X2_wantedIn l dC dI TT H.size p1) (va_cwS 1 hts gX2_link_X2_wantedIn rfl rfl rfl (by decide +kernel) ⟨Nat.le_of_ble_eq_true rfl, Nat.le_of_ble_eq_true rfl⟩) (pr_S (ws := []) (wA := []) (tys := []) vp_nil (hK.sub [] rfl) vd_nil hst hS (ro_free hS hA)) rfl rfl hl.1 rfl (lv_room (Nat.le_of_ble_eq_true rfl)) dX2_link_68 ⟨Nat.le_of_ble_eq_true rfl, Nat.le_of_ble_eq_true rfl⟩) hS (fun q _ h => (ro_free hS hA) q h) (ro_free hS hA) (fun r_13 u t H1 locs ht hvm hw hB hz1 hk1 hS => ?_)
            have hP := ro_keep hP hk1
            generalize H1 = H at hP hS ⊢
            obtain ⟨cn_14, v_14, b_14, m_14, st_14, i_14, e_14, fv_14, fb_14, fm_14, fst_14, fi_14⟩ := hPI.a1 fy_12
            obtain ⟨k_14, hk_14⟩ := va_plg fy_12.1 e_14
            refine va_calli (va_runV (b := y_12) (As := [.int r_13]) (rest := []) ⟨hx, hb, hml, hown, hts⟩ (t_X1_isOf l dC dI TT H.size kT kI kJ K L f hPI y_12 fy_12 r_13) (cwV 1 hts gX2_link_X1_isOf rfl rfl rfl (by decide +kernel) ⟨Nat.le_of_ble_eq_true rfl, Nat.le_of_ble_eq_true rfl⟩) ⟨pr_blind, va_recv hK hP (ci := 1) rfl hk_14, (pr_S (ws := va_pl L f) (wA := []) (tys := [(kT, .object RX1), (kI, .int), (kJ, .long)]) hP hK vd_nil hst hS (ro_free hS hA)).2⟩ rfl rfl hl.1 rfl (lv_room (Nat.le_of_ble_eq_true rfl)) dX2_link_71 ⟨Nat.le_of_ble_eq_true rfl, Nat.le_of_ble_eq_true rfl⟩) hS (fun q _ h => (ro_free hS hA) q h) (ro_free hS hA) (fun r_15 u t H1 locs ht hvm hw hB hz1 hk1 hS => ?_)
            have hP := ro_keep hP hk1
            generalize H1 = H at hP hS ⊢
            rcases hw with rfl | rfl
            · refine lv_if_ne (tgt := 80) hx hb dX2_link_74 (by decide) (fun _ => ?_) (fun c9 => absurd c9 (by decide))
              refine lv_aloadN hx hb dX2_link_80 (lv_at hl 1 rfl) ?_
              refine lv_ifnonnullN hx hb dX2_link_82 ?_
              refine lv_bipush (v := (-11)) hx hb dX2_link_85 (by decide) ?_
              exact W.iret (v := (-11)) hx hb hr (fun t ht hW => ⟨⟨(-11), (), rfl, trivial, f, hPI, by rw [ht]; exact hP, hD⟩, hS.F ht⟩) hS.2.2 dX2_link_87
            · refine lv_if_ne (tgt := 80) hx hb dX2_link_74 (by decide) (fun c9 => absurd c9 (by decide)) (fun _ => ?_)
              refine lv_bipush (v := (-14)) hx hb dX2_link_77 (by decide) ?_
              exact W.iret (v := (-14)) hx hb hr (fun t ht hW => ⟨⟨(-14), (), rfl, trivial, f, hPI, by rw [ht]; exact hP, hD⟩, hS.F ht⟩) hS.2.2 dX2_link_79
        · have fy_9 := fo_8 y_9 rfl
          refine W.eq (g2 := F0 m 29 ls [.ref y_9]) rfl ?_
          refine lv_astore (lv' := [(4, .ref y_9), (0, .ref h0), (1, .int p0), (2, .int p1), (3, .int p2)]) hx hb dX2_link_29 hl (by decide) rfl (fun ls hl => ?_)
          refine lv_aload_n hx hb dX2_link_31 rfl (lv_at hl 1 rfl) ?_
          obtain ⟨k_16, hk_16⟩ := va_plg hh0.1 e_7
          refine va_get (D := (dC, dI)) (ci := 2) (v := .ref q1_7) (C := RX2) (T := TX2) (N := 9) hx hb hts iX2_ hown hK hP k_16 hk_16 rfl 0 (by decide) (hts (.fieldLink RX2 11 "FieldLeaves" "slots" "[LFieldLeaves$Thing;") (by decide +kernel)) (fun _ h9 => h9) rfl dX2_link_32 ?_
          refine lv_iload_n hx hb dX2_link_35 rfl (lv_at hl 4 rfl) ?_
          obtain ⟨k_17, hk_17⟩ := va_plg fq1_7.1 e_8
          have h_17 : vp_in p2 12 := (vp_in_iff.mpr (by constructor <;> omega))
          refine va_aldq hx hb hK hP k_17 0 hk_17 rfl h_17 dX2_link_36 ?_
          have fo_17 := fg_8 _ (vp_lt h_17)
          generalize eo_17 : g_8 (Int32.toNatClampNeg p2) = o_17 at fo_17 ⊢
          rcases o_17 with _ | y_18
          · refine W.eq (g2 := F0 m 37 ls [.null]) rfl ?_
            refine lv_astoreN (lv' := [(5, .null), (4, .ref y_9), (0, .ref h0), (1, .int p0), (2, .int p1), (3, .int p2)]) hx hb dX2_link_37 hl (by decide) rfl (fun ls hl => ?_)
            refine lv_aload hx hb dX2_link_39 (lv_at hl 1 rfl) ?_
            refine lv_ifnull hx hb dX2_link_41 ?_
            refine lv_aload hx hb dX2_link_44 (lv_at hl 1 rfl) ?_
            refine va_gets (v := .ref TT.2.1) hx hb hst.zO hS hown (hts (.fieldLink RX2 57 "FieldLeaves" "OWNER" "[I") (by decide +kernel)) (fun _ h9 => h9) dX2_link_46 ?_
            refine lv_iload_n hx hb dX2_link_49 rfl (lv_at hl 4 rfl) ?_
            have h_19 : vp_in p1 17 := (vp_in_iff.mpr (by constructor <;> omega))
            refine va_ti hx hb hst.tO hS h_19 (v := .int (OWNERt (Int32.toNatClampNeg p1))) rfl dX2_link_50 ?_
            have fh_19 := OWNERt_is h_19
            obtain ⟨cn_20, v_20, b_20, m_20, st_20, i_20, e_20, fv_20, fb_20, fm_20, fst_20, fi_20⟩ := hPI.a1 fy_9
            obtain ⟨k_20, hk_20⟩ := va_plg fy_9.1 e_20
            refine va_calli (va_runV (b := y_9) (As := [.int (OWNERt (Int32.toNatClampNeg p1))]) (rest := []) ⟨hx, hb, hml, hown, hts⟩ (t_X1_isOf l dC dI TT H.size kT kI kJ K L f hPI y_9 fy_9 (OWNERt (Int32.toNatClampNeg p1))) (cwV 1 hts gX2_link_X1_isOf rfl rfl rfl (by decide +kernel) ⟨Nat.le_of_ble_eq_true rfl, Nat.le_of_ble_eq_true rfl⟩) ⟨pr_blind, va_recv hK hP (ci := 1) rfl hk_20, (pr_S (ws := va_pl L f) (wA := []) (tys := [(kT, .object RX1), (kI, .int), (kJ, .long)]) hP hK vd_nil hst hS (ro_free hS hA)).2⟩ rfl rfl hl.1 rfl (lv_room (Nat.le_of_ble_eq_true rfl)) dX2_link_51 ⟨Nat.le_of_ble_eq_true rfl, Nat.le_of_ble_eq_true rfl⟩) hS (fun q _ h => (ro_free hS hA) q h) (ro_free hS hA) (fun r_21 u t H1 locs ht hvm hw hB hz1 hk1 hS => ?_)
            have hP := ro_keep hP hk1
            generalize H1 = H at hP hS ⊢
            rcases hw with rfl | rfl
            · refine lv_if_ne (tgt := 60) hx hb dX2_link_54 (by decide) (fun _ => ?_) (fun c9 => absurd c9 (by decide))
              refine lv_aloadN hx hb dX2_link_60 (lv_at hl 0 rfl) ?_
              refine lv_ifnullN (tgt := 80) hx hb dX2_link_62 (by decide) ?_
              refine lv_aload hx hb dX2_link_80 (lv_at hl 1 rfl) ?_
              refine lv_ifnonnull (tgt := 88) hx hb dX2_link_82 (by decide) ?_
              refine lv_aload hx hb dX2_link_88 (lv_at hl 1 rfl) ?_
              refine lv_iload_n hx hb dX2_link_90 rfl (lv_at hl 4 rfl) ?_
              refine lv_aloadN hx hb dX2_link_91 (lv_at hl 0 rfl) ?_
              have hFc := pl_free hD hS hA
              obtain ⟨k_22, hk_22⟩ := va_plg fy_9.1 e_20
              refine va_callv (va_runV (b := y_9) (As := [.int p1, .null]) (rest := []) ⟨hx, hb, hml, hown, hts⟩ (t_X1_hold_null l dC dI TT H.size kT kI kJ K L f hPI y_9 fy_9 p1) (cwV 2 hts gX2_link_X1_hold rfl rfl rfl (by decide +kernel) ⟨Nat.le_of_ble_eq_true rfl, Nat.le_of_ble_eq_true rfl⟩) ⟨pr_blind, va_recv hK hP (ci := 1) rfl hk_22, (pr_S (ws := va_pl L f) (wA := va_pl L f) (tys := [(kT, .object RX1), (kI, .int), (kJ, .long)]) hP hK (hD.weaken (fun _ _ _ _ => trivial)) hst hS hFc).2⟩ rfl rfl hl.1 rfl (lv_room (Nat.le_of_ble_eq_true rfl)) dX2_link_93 ⟨Nat.le_of_ble_eq_true rfl, Nat.le_of_ble_eq_true rfl⟩) hS (fun q _ h => hFc q h) hFc (fun u t H1 locs ht hvm hw hB hz1 hk1 hS => ?_)
              obtain ⟨f_24, hPI, hP, hD9⟩ := hB
              rw [ht] at hP
              have hD := hD9.weaken (fun _ q _ h => hFc q.1 h)
              generalize H1 = H at hP hS ⊢
              refine lv_iconst (v := 1) hx hb dX2_link_96 (by decide) ?_
              exact W.iret (v := 1) hx hb hr (fun t ht hW => ⟨⟨1, (), rfl, trivial, f_24, hPI, by rw [ht]; exact hP, hD⟩, hS.F ht⟩) hS.2.2 dX2_link_97
            · refine lv_if_ne (tgt := 60) hx hb dX2_link_54 (by decide) (fun c9 => absurd c9 (by decide)) (fun _ => ?_)
              refine lv_bipush (v := (-14)) hx hb dX2_link_57 (by decide) ?_
              exact W.iret (v := (-14)) hx hb hr (fun t ht hW => ⟨⟨(-14), (), rfl, trivial, f, hPI, by rw [ht]; exact hP, hD⟩, hS.F ht⟩) hS.2.2 dX2_link_59
          · have fy_18 := fo_17 y_18 rfl
            refine W.eq (g2 := F0 m 37 ls [.ref y_18]) rfl ?_
            refine lv_astore (lv' := [(5, .ref y_18), (4, .ref y_9), (0, .ref h0), (1, .int p0), (2, .int p1), (3, .int p2)]) hx hb dX2_link_37 hl (by decide) rfl (fun ls hl => ?_)
            refine lv_aload hx hb dX2_link_39 (lv_at hl 1 rfl) ?_
            refine lv_ifnull hx hb dX2_link_41 ?_
            refine lv_aload hx hb dX2_link_44 (lv_at hl 1 rfl) ?_
            refine va_gets (v := .ref TT.2.1) hx hb hst.zO hS hown (hts (.fieldLink RX2 57 "FieldLeaves" "OWNER" "[I") (by decide +kernel)) (fun _ h9 => h9) dX2_link_46 ?_
            refine lv_iload_n hx hb dX2_link_49 rfl (lv_at hl 4 rfl) ?_
            have h_25 : vp_in p1 17 := (vp_in_iff.mpr (by constructor <;> omega))
            refine va_ti hx hb hst.tO hS h_25 (v := .int (OWNERt (Int32.toNatClampNeg p1))) rfl dX2_link_50 ?_
            have fh_25 := OWNERt_is h_25
            obtain ⟨cn_26, v_26, b_26, m_26, st_26, i_26, e_26, fv_26, fb_26, fm_26, fst_26, fi_26⟩ := hPI.a1 fy_9
            obtain ⟨k_26, hk_26⟩ := va_plg fy_9.1 e_26
            refine va_calli (va_runV (b := y_9) (As := [.int (OWNERt (Int32.toNatClampNeg p1))]) (rest := []) ⟨hx, hb, hml, hown, hts⟩ (t_X1_isOf l dC dI TT H.size kT kI kJ K L f hPI y_9 fy_9 (OWNERt (Int32.toNatClampNeg p1))) (cwV 1 hts gX2_link_X1_isOf rfl rfl rfl (by decide +kernel) ⟨Nat.le_of_ble_eq_true rfl, Nat.le_of_ble_eq_true rfl⟩) ⟨pr_blind, va_recv hK hP (ci := 1) rfl hk_26, (pr_S (ws := va_pl L f) (wA := []) (tys := [(kT, .object RX1), (kI, .int), (kJ, .long)]) hP hK vd_nil hst hS (ro_free hS hA)).2⟩ rfl rfl hl.1 rfl (lv_room (Nat.le_of_ble_eq_true rfl)) dX2_link_51 ⟨Nat.le_of_ble_eq_true rfl, Nat.le_of_ble_eq_true rfl⟩) hS (fun q _ h => (ro_free hS hA) q h) (ro_free hS hA) (fun r_27 u t H1 locs ht hvm hw hB hz1 hk1 hS => ?_)
            have hP := ro_keep hP hk1
            generalize H1 = H at hP hS ⊢
            rcases hw with rfl | rfl
            · refine lv_if_ne (tgt := 60) hx hb dX2_link_54 (by decide) (fun _ => ?_) (fun c9 => absurd c9 (by decide))
              refine lv_aload hx hb dX2_link_60 (lv_at hl 0 rfl) ?_
              refine lv_ifnull hx hb dX2_link_62 ?_
              refine lv_aload hx hb dX2_link_65 (lv_at hl 0 rfl) ?_
              refine lv_iload_n hx hb dX2_link_67 rfl (lv_at hl 4 rfl) ?_
              refine va_calli (va_runS (As := [.int p1]) (rest := [.ref y_18]) ⟨hx, hb, hml, hown, hts⟩ (c_X2_wantedIn l dC dI TT H.size p1) (va_cwS 1 hts gX2_link_X2_wantedIn rfl rfl rfl (by decide +kernel) ⟨Nat.le_of_ble_eq_true rfl, Nat.le_of_ble_eq_true rfl⟩) (pr_S (ws := []) (wA := []) (tys := []) vp_nil (hK.sub [] rfl) vd_nil hst hS (ro_free hS hA)) rfl rfl hl.1 rfl (lv_room (Nat.le_of_ble_eq_true rfl)) dX2_link_68 ⟨Nat.le_of_ble_eq_true rfl, Nat.le_of_ble_eq_true rfl⟩) hS (fun q _ h => (ro_free hS hA) q h) (ro_free hS hA) (fun r_28 u t H1 locs ht hvm hw hB hz1 hk1 hS => ?_)
              have hP := ro_keep hP hk1
              generalize H1 = H at hP hS ⊢
              obtain ⟨cn_29, v_29, b_29, m_29, st_29, i_29, e_29, fv_29, fb_29, fm_29, fst_29, fi_29⟩ := hPI.a1 fy_18
              obtain ⟨k_29, hk_29⟩ := va_plg fy_18.1 e_29
              refine va_calli (va_runV (b := y_18) (As := [.int r_28]) (rest := []) ⟨hx, hb, hml, hown, hts⟩ (t_X1_isOf l dC dI TT H.size kT kI kJ K L f hPI y_18 fy_18 r_28) (cwV 1 hts gX2_link_X1_isOf rfl rfl rfl (by decide +kernel) ⟨Nat.le_of_ble_eq_true rfl, Nat.le_of_ble_eq_true rfl⟩) ⟨pr_blind, va_recv hK hP (ci := 1) rfl hk_29, (pr_S (ws := va_pl L f) (wA := []) (tys := [(kT, .object RX1), (kI, .int), (kJ, .long)]) hP hK vd_nil hst hS (ro_free hS hA)).2⟩ rfl rfl hl.1 rfl (lv_room (Nat.le_of_ble_eq_true rfl)) dX2_link_71 ⟨Nat.le_of_ble_eq_true rfl, Nat.le_of_ble_eq_true rfl⟩) hS (fun q _ h => (ro_free hS hA) q h) (ro_free hS hA) (fun r_30 u t H1 locs ht hvm hw hB hz1 hk1 hS => ?_)
              have hP := ro_keep hP hk1
              generalize H1 = H at hP hS ⊢
              rcases hw with rfl | rfl
              · refine lv_if_ne (tgt := 80) hx hb dX2_link_74 (by decide) (fun _ => ?_) (fun c9 => absurd c9 (by decide))
                refine lv_aload hx hb dX2_link_80 (lv_at hl 1 rfl) ?_
                refine lv_ifnonnull (tgt := 88) hx hb dX2_link_82 (by decide) ?_
                refine lv_aload hx hb dX2_link_88 (lv_at hl 1 rfl) ?_
                refine lv_iload_n hx hb dX2_link_90 rfl (lv_at hl 4 rfl) ?_
                refine lv_aload hx hb dX2_link_91 (lv_at hl 0 rfl) ?_
                have hFc := pl_free hD hS hA
                obtain ⟨k_31, hk_31⟩ := va_plg fy_9.1 e_26
                refine va_callv (va_runV (b := y_9) (As := [.int p1, .ref y_18]) (rest := []) ⟨hx, hb, hml, hown, hts⟩ (t_X1_hold l dC dI TT H.size kT kI kJ K L f hPI y_9 fy_9 p1 y_18 fy_18) (cwV 2 hts gX2_link_X1_hold rfl rfl rfl (by decide +kernel) ⟨Nat.le_of_ble_eq_true rfl, Nat.le_of_ble_eq_true rfl⟩) ⟨pr_blind, va_recv hK hP (ci := 1) rfl hk_31, (pr_S (ws := va_pl L f) (wA := va_pl L f) (tys := [(kT, .object RX1), (kI, .int), (kJ, .long)]) hP hK (hD.weaken (fun _ _ _ _ => trivial)) hst hS hFc).2⟩ rfl rfl hl.1 rfl (lv_room (Nat.le_of_ble_eq_true rfl)) dX2_link_93 ⟨Nat.le_of_ble_eq_true rfl, Nat.le_of_ble_eq_true rfl⟩) hS (fun q _ h => hFc q h) hFc (fun u t H1 locs ht hvm hw hB hz1 hk1 hS => ?_)
                obtain ⟨f_33, hPI, hP, hD9⟩ := hB
                rw [ht] at hP
                have hD := hD9.weaken (fun _ q _ h => hFc q.1 h)
                generalize H1 = H at hP hS ⊢
                refine lv_iconst (v := 1) hx hb dX2_link_96 (by decide) ?_
                exact W.iret (v := 1) hx hb hr (fun t ht hW => ⟨⟨1, (), rfl, trivial, f_33, hPI, by rw [ht]; exact hP, hD⟩, hS.F ht⟩) hS.2.2 dX2_link_97
              · refine lv_if_ne (tgt := 80) hx hb dX2_link_74 (by decide) (fun c9 => absurd c9 (by decide)) (fun _ => ?_)
                refine lv_bipush (v := (-14)) hx hb dX2_link_77 (by decide) ?_
                exact W.iret (v := (-14)) hx hb hr (fun t ht hW => ⟨⟨(-14), (), rfl, trivial, f, hPI, by rw [ht]; exact hP, hD⟩, hS.F ht⟩) hS.2.2 dX2_link_79
            · refine lv_if_ne (tgt := 60) hx hb dX2_link_54 (by decide) (fun c9 => absurd c9 (by decide)) (fun _ => ?_)
              refine lv_bipush (v := (-14)) hx hb dX2_link_57 (by decide) ?_
              exact W.iret (v := (-14)) hx hb hr (fun t ht hW => ⟨⟨(-14), (), rfl, trivial, f, hPI, by rw [ht]; exact hP, hD⟩, hS.F ht⟩) hS.2.2 dX2_link_59
      · refine lv_if_ne (tgt := 23) hx hb dX2_link_18 (by decide) (fun c9 => absurd c9 (by decide)) (fun _ => ?_)
        refine lv_iconst (v := (-1)) hx hb dX2_link_21 (by decide) ?_
        exact W.iret (v := (-1)) hx hb hr (fun t ht hW => ⟨⟨(-1), (), rfl, trivial, f, hPI, by rw [ht]; exact hP, hD⟩, hS.F ht⟩) hS.2.2 dX2_link_22
    · refine lv_if_eq (tgt := 21) hx hb dX2_link_11 (by decide) (fun _ => ?_) (fun c9 => absurd c9 (by decide))
      refine lv_iconst (v := (-1)) hx hb dX2_link_21 (by decide) ?_
      exact W.iret (v := (-1)) hx hb hr (fun t ht hW => ⟨⟨(-1), (), rfl, trivial, f, hPI, by rw [ht]; exact hP, hD⟩, hS.F ht⟩) hS.2.2 dX2_link_22
  · refine lv_if_eq (tgt := 21) hx hb dX2_link_4 (by decide) (fun _ => ?_) (fun c9 => absurd c9 (by decide))
    refine lv_iconst (v := (-1)) hx hb dX2_link_21 (by decide) ?_
    exact W.iret (v := (-1)) hx hb hr (fun t ht hW => ⟨⟨(-1), (), rfl, trivial, f, hPI, by rw [ht]; exact hP, hD⟩, hS.F ht⟩) hS.2.2 dX2_link_22
set_option maxRecDepth 20000 in
theorem in_t_X2_follow_X2 : ∀ w ∈ u_ws RX2 TX2 9, w ∈ wsX2_follow := by decide +kernel
set_option maxRecDepth 100000 in
set_option maxHeartbeats 4000000 in
theorem t_X2_follow (l : Launch) (dC : Nat → ClassId) (dI : Nat → Nat → Nat) (TT : Nat × Nat × Nat) (sz : Nat) (kT kI kJ : ClassId) (K : Nat → Nat) (L : List Nat) (f : Nat → va_E) (hPI : PI kT kI kJ K L f) (h0 : Nat) (hh0 : isr K L 2 h0) (p0 : Int32) (p1 : Int32) (p2 : Int32) : Met l yX2_follow wsX2_follow ({ frames := 2, cells := 0, slots := 0, locals := 42 } : Room) (va_Pc [.ref h0, .int p0, .int p1, .int p2] (pr dC dI (va_pl L f) (va_pl L f) [(kT, .object RX1), (kI, .int), (kJ, .long)] sz TT)) (va_Qi (fun (r : Int32) (u : Unit) => True) (fun (_ : Unit) t => ∃ f2 : Nat → va_E, PI kT kI kJ K L f2 ∧ va_P (dC, dI) vwCl (va_pl L f2) t.heap ∧ va_D (va_A (va_pl L f) sz) (va_pl L f2)) (va_A (va_pl L f) sz)) 0 0 (va_A (va_pl L f) sz) := by
  refine Met.ofW (cc := cX2_follow) (maxL := 6) (ret := (some .int)) (by decide) rfl ?_
  intro p e s m args below meth c s₁ B hml hv
  obtain ⟨rfl, hsz, hP, hK, hD0, hst⟩ := hv
  have hx := B.exec
  have hb := B.bytes
  have hr := B.returns
  have hts := atoms_spec (ws := wsX2_follow) B.pre
  have hown : s.vm.findClass RX2 = some m.cls := findClass_of_methodNamed B.named
  have hlocks := B.notSynchronized
  have iX2_ := in_t_X2_follow_X2
  subst hsz
  have hD := hD0.self (sz := s.heap.size)
  generalize hAe : va_A (va_pl L f) s.heap.size = A at hD hst ⊢
  have hA : ∀ q : Nat, s.heap.size ≤ q → A q := fun q h => by rw [← hAe]; exact Or.inr h
  have hS : va_S A s.heap s.heap [] := va_S.rf
  have hl := lv_entry ([.ref h0, .int p0, .int p1, .int p2]) (n := 6) (Nat.le_of_ble_eq_true rfl)
  rw [lg_entry_eq]
  generalize (lg_sl ([.ref h0, .int p0, .int p1, .int p2]) ++ List.replicate (6 - (lg_sl ([.ref h0, .int p0, .int p1, .int p2])).length) Slot.unset).toArray = ls at hl ⊢
  have hl : lv_has ls 6 [(0, .ref h0), (1, .int p0), (2, .int p1), (3, .int p2)] := hl
  have km11_ : Int32.toInt (-11) = -11 := by decide
  have km1_ : Int32.toInt (-1) = -1 := by decide
  have k0_ : Int32.toInt 0 = 0 := by decide
  have k1_ : Int32.toInt 1 = 1 := by decide
  refine lv_iload_n hx hb dX2_follow_0 rfl (lv_at hl 1 rfl) ?_
  refine va_calli (va_runS (As := [.int p0]) (rest := []) ⟨hx, hb, hml, hown, hts⟩ (c_X2_isSlot l dC dI TT s.heap.size p0) (va_cwS 1 hts gX2_follow_X2_isSlot rfl rfl rfl (by decide +kernel) ⟨Nat.le_of_ble_eq_true rfl, Nat.le_of_ble_eq_true rfl⟩) (pr_S (ws := []) (wA := []) (tys := []) vp_nil (hK.sub [] rfl) vd_nil hst hS (ro_free hS hA)) rfl rfl hl.1 rfl (lv_room (Nat.le_of_ble_eq_true rfl)) dX2_follow_1 ⟨Nat.le_of_ble_eq_true rfl, Nat.le_of_ble_eq_true rfl⟩) hS (fun q _ h => (ro_free hS hA) q h) (ro_free hS hA) (fun r_1 u t H1 locs ht hvm hw hB hz1 hk1 hS => ?_)
  have hP := ro_keep hP hk1
  generalize H1 = H at hP hS ⊢
  rcases hw with ⟨rfl, hp_2⟩ | ⟨rfl, hp_2⟩
  · refine lv_if_eq (tgt := 21) hx hb dX2_follow_4 (by decide) (fun c9 => absurd c9 (by decide)) (fun _ => ?_)
    refine lv_iload_n hx hb dX2_follow_7 rfl (lv_at hl 2 rfl) ?_
    refine va_calli (va_runS (As := [.int p1]) (rest := []) ⟨hx, hb, hml, hown, hts⟩ (c_X2_isLinkField l dC dI TT H.size p1) (va_cwS 1 hts gX2_follow_X2_isLinkField rfl rfl rfl (by decide +kernel) ⟨Nat.le_of_ble_eq_true rfl, Nat.le_of_ble_eq_true rfl⟩) (pr_S (ws := []) (wA := []) (tys := []) vp_nil (hK.sub [] rfl) vd_nil hst hS (ro_free hS hA)) rfl rfl hl.1 rfl (lv_room (Nat.le_of_ble_eq_true rfl)) dX2_follow_8 ⟨Nat.le_of_ble_eq_true rfl, Nat.le_of_ble_eq_true rfl⟩) hS (fun q _ h => (ro_free hS hA) q h) (ro_free hS hA) (fun r_3 u t H1 locs ht hvm hw hB hz1 hk1 hS => ?_)
    have hP := ro_keep hP hk1
    generalize H1 = H at hP hS ⊢
    rcases hw with ⟨rfl, hp_4⟩ | ⟨rfl, hp_4⟩
    · refine lv_if_eq (tgt := 21) hx hb dX2_follow_11 (by decide) (fun c9 => absurd c9 (by decide)) (fun _ => ?_)
      refine lv_iload_n hx hb dX2_follow_14 rfl (lv_at hl 3 rfl) ?_
      refine va_calli (va_runS (As := [.int p2]) (rest := []) ⟨hx, hb, hml, hown, hts⟩ (c_X2_isSlot l dC dI TT H.size p2) (va_cwS 1 hts gX2_follow_X2_isSlot rfl rfl rfl (by decide +kernel) ⟨Nat.le_of_ble_eq_true rfl, Nat.le_of_ble_eq_true rfl⟩) (pr_S (ws := []) (wA := []) (tys := []) vp_nil (hK.sub [] rfl) vd_nil hst hS (ro_free hS hA)) rfl rfl hl.1 rfl (lv_room (Nat.le_of_ble_eq_true rfl)) dX2_follow_15 ⟨Nat.le_of_ble_eq_true rfl, Nat.le_of_ble_eq_true rfl⟩) hS (fun q _ h => (ro_free hS hA) q h) (ro_free hS hA) (fun r_5 u t H1 locs ht hvm hw hB hz1 hk1 hS => ?_)
      have hP := ro_keep hP hk1
      generalize H1 = H at hP hS ⊢
      rcases hw with ⟨rfl, hp_6⟩ | ⟨rfl, hp_6⟩
      · refine lv_if_ne (tgt := 23) hx hb dX2_follow_18 (by decide) (fun _ => ?_) (fun c9 => absurd c9 (by decide))
        refine lv_aload_n hx hb dX2_follow_23 rfl (lv_at hl 0 rfl) ?_
        obtain ⟨q1_7, pc_7, c1_7, c2_7, c3_7, q5_7, fc_7, q7_7, mc_7, e_7, fq1_7, fc1_7, fc2_7, fc3_7, fq5_7, ffc_7, fq7_7, fmc_7⟩ := hPI.a2 hh0
        obtain ⟨k_7, hk_7⟩ := va_plg hh0.1 e_7
        refine va_get (D := (dC, dI)) (ci := 2) (v := .ref q1_7) (C := RX2) (T := TX2) (N := 9) hx hb hts iX2_ hown hK hP k_7 hk_7 rfl 0 (by decide) (hts (.fieldLink RX2 11 "FieldLeaves" "slots" "[LFieldLeaves$Thing;") (by decide +kernel)) (fun _ h9 => h9) rfl dX2_follow_24 ?_
        refine lv_iload_n hx hb dX2_follow_27 rfl (lv_at hl 1 rfl) ?_
        obtain ⟨g_8, e_8, fg_8⟩ := hPI.a5 fq1_7
        obtain ⟨k_8, hk_8⟩ := va_plg fq1_7.1 e_8
        have h_8 : vp_in p0 12 := (vp_in_iff.mpr (by constructor <;> omega))
        refine va_aldq hx hb hK hP k_8 0 hk_8 rfl h_8 dX2_follow_28 ?_
        have fo_8 := fg_8 _ (vp_lt h_8)
        generalize eo_8 : g_8 (Int32.toNatClampNeg p0) = o_8 at fo_8 ⊢
        rcases o_8 with _ | y_9
        · refine W.eq (g2 := F0 m 29 ls [.null]) rfl ?_
          refine lv_astoreN (lv' := [(4, .null), (0, .ref h0), (1, .int p0), (2, .int p1), (3, .int p2)]) hx hb dX2_follow_29 hl (by decide) rfl (fun ls hl => ?_)
          refine lv_aloadN hx hb dX2_follow_31 (lv_at hl 0 rfl) ?_
          refine va_gets (v := .ref TT.2.1) hx hb hst.zO hS hown (hts (.fieldLink RX2 57 "FieldLeaves" "OWNER" "[I") (by decide +kernel)) (fun _ h9 => h9) dX2_follow_33 ?_
          refine lv_iload_n hx hb dX2_follow_36 rfl (lv_at hl 3 rfl) ?_
          have h_10 : vp_in p1 17 := (vp_in_iff.mpr (by constructor <;> omega))
          refine va_ti hx hb hst.tO hS h_10 (v := .int (OWNERt (Int32.toNatClampNeg p1))) rfl dX2_follow_37 ?_
          have fh_10 := OWNERt_is h_10
          refine va_calli (va_runS (As := [.null, .int (OWNERt (Int32.toNatClampNeg p1))]) (rest := []) ⟨hx, hb, hml, hown, hts⟩ (c_X2_failureAs_null l dC dI TT H.size (OWNERt (Int32.toNatClampNeg p1))) (va_cwS 2 hts gX2_follow_X2_failureAs rfl rfl rfl (by decide +kernel) ⟨Nat.le_of_ble_eq_true rfl, Nat.le_of_ble_eq_true rfl⟩) (pr_S (ws := []) (wA := []) (tys := []) vp_nil (hK.sub [] rfl) vd_nil hst hS (ro_free hS hA)) rfl rfl hl.1 rfl (lv_room (Nat.le_of_ble_eq_true rfl)) dX2_follow_38 ⟨Nat.le_of_ble_eq_true rfl, Nat.le_of_ble_eq_true rfl⟩) hS (fun q _ h => (ro_free hS hA) q h) (ro_free hS hA) (fun r_11 u t H1 locs ht hvm hw hB hz1 hk1 hS => ?_)
          have hP := ro_keep hP hk1
          generalize H1 = H at hP hS ⊢
          subst hw
          refine lv_istore (lv' := [(5, .int (-11)), (4, .null), (0, .ref h0), (1, .int p0), (2, .int p1), (3, .int p2)]) hx hb dX2_follow_41 hl (by decide) rfl (fun ls hl => ?_)
          refine lv_iload hx hb dX2_follow_43 (lv_at hl 0 rfl) ?_
          refine lv_if_eq (tgt := 51) hx hb dX2_follow_45 (by decide) (fun c9 => absurd c9 (by decide)) (fun _ => ?_)
          refine lv_iload hx hb dX2_follow_48 (lv_at hl 0 rfl) ?_
          exact W.iret (v := (-11)) hx hb hr (fun t ht hW => ⟨⟨(-11), (), rfl, trivial, f, hPI, by rw [ht]; exact hP, hD⟩, hS.F ht⟩) hS.2.2 dX2_follow_50
        · have fy_9 := fo_8 y_9 rfl
          refine W.eq (g2 := F0 m 29 ls [.ref y_9]) rfl ?_
          refine lv_astore (lv' := [(4, .ref y_9), (0, .ref h0), (1, .int p0), (2, .int p1), (3, .int p2)]) hx hb dX2_follow_29 hl (by decide) rfl (fun ls hl => ?_)
          refine lv_aload hx hb dX2_follow_31 (lv_at hl 0 rfl) ?_
          refine va_gets (v := .ref TT.2.1) hx hb hst.zO hS hown (hts (.fieldLink RX2 57 "FieldLeaves" "OWNER" "[I") (by decide +kernel)) (fun _ h9 => h9) dX2_follow_33 ?_
          refine lv_iload_n hx hb dX2_follow_36 rfl (lv_at hl 3 rfl) ?_
          have h_12 : vp_in p1 17 := (vp_in_iff.mpr (by constructor <;> omega))
          refine va_ti hx hb hst.tO hS h_12 (v := .int (OWNERt (Int32.toNatClampNeg p1))) rfl dX2_follow_37 ?_
          have fh_12 := OWNERt_is h_12
          refine va_calli (va_runS (As := [.ref y_9, .int (OWNERt (Int32.toNatClampNeg p1))]) (rest := []) ⟨hx, hb, hml, hown, hts⟩ (t_X2_failureAs l dC dI TT H.size kT kI kJ K L f hPI y_9 fy_9 (OWNERt (Int32.toNatClampNeg p1))) (va_cwS 2 hts gX2_follow_X2_failureAs rfl rfl rfl (by decide +kernel) ⟨Nat.le_of_ble_eq_true rfl, Nat.le_of_ble_eq_true rfl⟩) (pr_S (ws := va_pl L f) (wA := []) (tys := [(kT, .object RX1), (kI, .int), (kJ, .long)]) hP hK vd_nil hst hS (ro_free hS hA)) rfl rfl hl.1 rfl (lv_room (Nat.le_of_ble_eq_true rfl)) dX2_follow_38 ⟨Nat.le_of_ble_eq_true rfl, Nat.le_of_ble_eq_true rfl⟩) hS (fun q _ h => (ro_free hS hA) q h) (ro_free hS hA) (fun r_13 u t H1 locs ht hvm hw hB hz1 hk1 hS => ?_)
          have hP := ro_keep hP hk1
          generalize H1 = H at hP hS ⊢
          refine lv_istore (lv' := [(5, .int r_13), (4, .ref y_9), (0, .ref h0), (1, .int p0), (2, .int p1), (3, .int p2)]) hx hb dX2_follow_41 hl (by decide) rfl (fun ls hl => ?_)
          refine lv_iload hx hb dX2_follow_43 (lv_at hl 0 rfl) ?_
          refine lv_if_eq (tgt := 51) hx hb dX2_follow_45 (by decide) (fun c_14 => ?_) (fun c_14 => ?_)
          · have c_14 := congrArg Int32.toInt c_14
            refine lv_aload_n hx hb dX2_follow_51 rfl (lv_at hl 2 rfl) ?_
            obtain ⟨k_15, hk_15⟩ := va_plg hh0.1 e_7
            refine va_get (D := (dC, dI)) (ci := 2) (v := .ref q1_7) (C := RX2) (T := TX2) (N := 9) hx hb hts iX2_ hown hK hP k_15 hk_15 rfl 0 (by decide) (hts (.fieldLink RX2 11 "FieldLeaves" "slots" "[LFieldLeaves$Thing;") (by decide +kernel)) (fun _ h9 => h9) rfl dX2_follow_52 ?_
            refine lv_iload_n hx hb dX2_follow_55 rfl (lv_at hl 5 rfl) ?_
            refine lv_aload hx hb dX2_follow_56 (lv_at hl 1 rfl) ?_
            refine lv_iload_n hx hb dX2_follow_58 rfl (lv_at hl 4 rfl) ?_
            obtain ⟨cn_16, v_16, b_16, m_16, st_16, i_16, e_16, fv_16, fb_16, fm_16, fst_16, fi_16⟩ := hPI.a1 fy_9
            obtain ⟨k_16, hk_16⟩ := va_plg fy_9.1 e_16
            refine va_callq (va_runV (b := y_9) (As := [.int p1]) (rest := [.int p2, .ref q1_7]) ⟨hx, hb, hml, hown, hts⟩ (t_X1_held l dC dI TT H.size kT kI kJ K L f hPI y_9 fy_9 p1) (cwV 1 hts gX2_follow_X1_held rfl rfl rfl (by decide +kernel) ⟨Nat.le_of_ble_eq_true rfl, Nat.le_of_ble_eq_true rfl⟩) ⟨pr_blind, va_recv hK hP (ci := 1) rfl hk_16, (pr_S (ws := va_pl L f) (wA := []) (tys := [(kT, .object RX1), (kI, .int), (kJ, .long)]) hP hK vd_nil hst hS (ro_free hS hA)).2⟩ rfl rfl hl.1 rfl (lv_room (Nat.le_of_ble_eq_true rfl)) dX2_follow_59 ⟨Nat.le_of_ble_eq_true rfl, Nat.le_of_ble_eq_true rfl⟩) hS (fun q _ h => (ro_free hS hA) q h) (ro_free hS hA) (fun r_17 u t H1 locs ht hvm hw hB hz1 hk1 hS => ?_)
            have hP := ro_keep hP hk1
            generalize H1 = H at hP hS ⊢
            rcases r_17 with _ | y_18
            · refine W.eq (g2 := F0 m 62 ls [.null, .int p2, .ref q1_7]) rfl ?_
              obtain ⟨k_19, hk_19⟩ := va_plg fq1_7.1 e_8
              have h_19 : vp_in p2 12 := (vp_in_iff.mpr (by constructor <;> omega))
              have hD9 := hD
              refine va_astqN hx hb hK hP hD hS k_19 0 hk_19 rfl h_19 dX2_follow_62 (fun H locs hP hD hS => ?_)
              have fg2_19 := upr_all (k := Int32.toNatClampNeg p2) (o := none) fg_8 (fun _ h9 => by cases h9)
              have hP : va_P (dC, dI) vwCl (va_pl L (va_up f q1_7 (.inl (kT, 12, .inr (.inr (.inr (.inr (va_up g_8 (Int32.toNatClampNeg p2) none)))))))) H := by rw [← va_pls hD9 fq1_7.1 hk_19 _]; exact hP
              have hD : va_D A (va_pl L (va_up f q1_7 (.inl (kT, 12, .inr (.inr (.inr (.inr (va_up g_8 (Int32.toNatClampNeg p2) none)))))))) := by rw [← va_pls hD9 fq1_7.1 hk_19 _]; exact hD
              have hPI := hPI.put (e := .inl (kT, 12, .inr (.inr (.inr (.inr (va_up g_8 (Int32.toNatClampNeg p2) none)))))) fq1_7 ⟨_, rfl, fg2_19⟩
              have es_f_20 : va_up f q1_7 (.inl (kT, 12, .inr (.inr (.inr (.inr (va_up g_8 (Int32.toNatClampNeg p2) none)))))) q1_7 = .inl (kT, 12, .inr (.inr (.inr (.inr (va_up g_8 (Int32.toNatClampNeg p2) none))))) := va_up_self _ _ _
              have eq_21 := (va_up_ne f (.inl (kT, 12, .inr (.inr (.inr (.inr (va_up g_8 (Int32.toNatClampNeg p2) none)))))) (isr_ne hh0 fq1_7 (by decide))).trans e_7
              have eq_22 := (va_up_ne f (.inl (kT, 12, .inr (.inr (.inr (.inr (va_up g_8 (Int32.toNatClampNeg p2) none)))))) (isr_ne fy_9 fq1_7 (by decide))).trans e_16
              generalize va_up f q1_7 (.inl (kT, 12, .inr (.inr (.inr (.inr (va_up g_8 (Int32.toNatClampNeg p2) none)))))) = f_20 at hP hD hPI es_f_20 eq_21 eq_22
              refine lv_iconst (v := 1) hx hb dX2_follow_63 (by decide) ?_
              exact W.iret (v := 1) hx hb hr (fun t ht hW => ⟨⟨1, (), rfl, trivial, f_20, hPI, by rw [ht]; exact hP, hD⟩, hS.F ht⟩) hS.2.2 dX2_follow_64
            · have fy_18 := hw y_18 rfl
              refine W.eq (g2 := F0 m 62 ls [.ref y_18, .int p2, .ref q1_7]) rfl ?_
              obtain ⟨k_23, hk_23⟩ := va_plg fq1_7.1 e_8
              have h_23 : vp_in p2 12 := (vp_in_iff.mpr (by constructor <;> omega))
              obtain ⟨cn_24, v_24, b_24, m_24, st_24, i_24, e_24, fv_24, fb_24, fm_24, fst_24, fi_24⟩ := hPI.a1 fy_18
              obtain ⟨k_24, hk_24⟩ := va_plg fy_18.1 e_24
              have hD9 := hD
              refine va_astq hx hb hK hP hD hS k_23 0 k_24 1 hk_23 rfl hk_24 rfl h_23 dX2_follow_62 (fun H locs hP hD hS => ?_)
              have fg2_23 := upr_all (k := Int32.toNatClampNeg p2) (o := (some y_18)) fg_8 (fun _ h9 => by cases h9; exact fy_18)
              have hP : va_P (dC, dI) vwCl (va_pl L (va_up f q1_7 (.inl (kT, 12, .inr (.inr (.inr (.inr (va_up g_8 (Int32.toNatClampNeg p2) (some y_18))))))))) H := by rw [← va_pls hD9 fq1_7.1 hk_23 _]; exact hP
              have hD : va_D A (va_pl L (va_up f q1_7 (.inl (kT, 12, .inr (.inr (.inr (.inr (va_up g_8 (Int32.toNatClampNeg p2) (some y_18))))))))) := by rw [← va_pls hD9 fq1_7.1 hk_23 _]; exact hD
              have hPI := hPI.put (e := .inl (kT, 12, .inr (.inr (.inr (.inr (va_up g_8 (Int32.toNatClampNeg p2) (some y_18))))))) fq1_7 ⟨_, rfl, fg2_23⟩
              have es_f_25 : va_up f q1_7 (.inl (kT, 12, .inr (.inr (.inr (.inr (va_up g_8 (Int32.toNatClampNeg p2) (some y_18))))))) q1_7 = .inl (kT, 12, .inr (.inr (.inr (.inr (va_up g_8 (Int32.toNatClampNeg p2) (some y_18)))))) := va_up_self _ _ _
              have eq_26 := (va_up_ne f (.inl (kT, 12, .inr (.inr (.inr (.inr (va_up g_8 (Int32.toNatClampNeg p2) (some y_18))))))) (isr_ne hh0 fq1_7 (by decide))).trans e_7
              have eq_27 := (va_up_ne f (.inl (kT, 12, .inr (.inr (.inr (.inr (va_up g_8 (Int32.toNatClampNeg p2) (some y_18))))))) (isr_ne fy_9 fq1_7 (by decide))).trans e_16
              have eq_28 := (va_up_ne f (.inl (kT, 12, .inr (.inr (.inr (.inr (va_up g_8 (Int32.toNatClampNeg p2) (some y_18))))))) (isr_ne fy_18 fq1_7 (by decide))).trans e_24
              generalize va_up f q1_7 (.inl (kT, 12, .inr (.inr (.inr (.inr (va_up g_8 (Int32.toNatClampNeg p2) (some y_18))))))) = f_25 at hP hD hPI es_f_25 eq_26 eq_27 eq_28
              refine lv_iconst (v := 1) hx hb dX2_follow_63 (by decide) ?_
              exact W.iret (v := 1) hx hb hr (fun t ht hW => ⟨⟨1, (), rfl, trivial, f_25, hPI, by rw [ht]; exact hP, hD⟩, hS.F ht⟩) hS.2.2 dX2_follow_64
          · have c_14 := mt Int32.toInt_inj.mp c_14
            refine lv_iload hx hb dX2_follow_48 (lv_at hl 0 rfl) ?_
            exact W.iret (v := r_13) hx hb hr (fun t ht hW => ⟨⟨r_13, (), rfl, trivial, f, hPI, by rw [ht]; exact hP, hD⟩, hS.F ht⟩) hS.2.2 dX2_follow_50
      · refine lv_if_ne (tgt := 23) hx hb dX2_follow_18 (by decide) (fun c9 => absurd c9 (by decide)) (fun _ => ?_)
        refine lv_iconst (v := (-1)) hx hb dX2_follow_21 (by decide) ?_
        exact W.iret (v := (-1)) hx hb hr (fun t ht hW => ⟨⟨(-1), (), rfl, trivial, f, hPI, by rw [ht]; exact hP, hD⟩, hS.F ht⟩) hS.2.2 dX2_follow_22
    · refine lv_if_eq (tgt := 21) hx hb dX2_follow_11 (by decide) (fun _ => ?_) (fun c9 => absurd c9 (by decide))
      refine lv_iconst (v := (-1)) hx hb dX2_follow_21 (by decide) ?_
      exact W.iret (v := (-1)) hx hb hr (fun t ht hW => ⟨⟨(-1), (), rfl, trivial, f, hPI, by rw [ht]; exact hP, hD⟩, hS.F ht⟩) hS.2.2 dX2_follow_22
  · refine lv_if_eq (tgt := 21) hx hb dX2_follow_4 (by decide) (fun _ => ?_) (fun c9 => absurd c9 (by decide))
    refine lv_iconst (v := (-1)) hx hb dX2_follow_21 (by decide) ?_
    exact W.iret (v := (-1)) hx hb hr (fun t ht hW => ⟨⟨(-1), (), rfl, trivial, f, hPI, by rw [ht]; exact hP, hD⟩, hS.F ht⟩) hS.2.2 dX2_follow_22
set_option maxRecDepth 20000 in
theorem in_t_X2_put_X1 : ∀ w ∈ u_ws RX1 TX1 6, w ∈ wsX2_put := by decide +kernel
set_option maxRecDepth 20000 in
theorem in_t_X2_put_X2 : ∀ w ∈ u_ws RX2 TX2 9, w ∈ wsX2_put := by decide +kernel
set_option maxRecDepth 100000 in
set_option maxHeartbeats 4000000 in
theorem t_X2_put (l : Launch) (dC : Nat → ClassId) (dI : Nat → Nat → Nat) (TT : Nat × Nat × Nat) (sz : Nat) (kT kI kJ : ClassId) (K : Nat → Nat) (L : List Nat) (f : Nat → va_E) (hPI : PI kT kI kJ K L f) (h0 : Nat) (hh0 : isr K L 2 h0) (p0 : Int32) (p1 : Int32) (p2 : Int32) : Met l yX2_put wsX2_put ({ frames := 3, cells := 0, slots := 0, locals := 63 } : Room) (va_Pc [.ref h0, .int p0, .int p1, .int p2] (pr dC dI (va_pl L f) (va_pl L f) [(kT, .object RX1), (kI, .int), (kJ, .long)] sz TT)) (va_Qi (fun (r : Int32) (u : Unit) => True) (fun (_ : Unit) t => ∃ f2 : Nat → va_E, PI kT kI kJ K L f2 ∧ va_P (dC, dI) vwCl (va_pl L f2) t.heap ∧ va_D (va_A (va_pl L f) sz) (va_pl L f2)) (va_A (va_pl L f) sz)) 0 0 (va_A (va_pl L f) sz) := by
  refine Met.ofW (cc := cX2_put) (maxL := 7) (ret := (some .int)) (by decide) rfl ?_
  intro p e s m args below meth c s₁ B hml hv
  obtain ⟨rfl, hsz, hP, hK, hD0, hst⟩ := hv
  have hx := B.exec
  have hb := B.bytes
  have hr := B.returns
  have hts := atoms_spec (ws := wsX2_put) B.pre
  have hown : s.vm.findClass RX2 = some m.cls := findClass_of_methodNamed B.named
  have hlocks := B.notSynchronized
  have iX1_ := in_t_X2_put_X1
  have iX2_ := in_t_X2_put_X2
  subst hsz
  have hD := hD0.self (sz := s.heap.size)
  generalize hAe : va_A (va_pl L f) s.heap.size = A at hD hst ⊢
  have hA : ∀ q : Nat, s.heap.size ≤ q → A q := fun q h => by rw [← hAe]; exact Or.inr h
  have hS : va_S A s.heap s.heap [] := va_S.rf
  have hl := lv_entry ([.ref h0, .int p0, .int p1, .int p2]) (n := 7) (Nat.le_of_ble_eq_true rfl)
  rw [lg_entry_eq]
  generalize (lg_sl ([.ref h0, .int p0, .int p1, .int p2]) ++ List.replicate (7 - (lg_sl ([.ref h0, .int p0, .int p1, .int p2])).length) Slot.unset).toArray = ls at hl ⊢
  have hl : lv_has ls 7 [(0, .ref h0), (1, .int p0), (2, .int p1), (3, .int p2)] := hl
  have km12_ : Int32.toInt (-12) = -12 := by decide
  have km11_ : Int32.toInt (-11) = -11 := by decide
  have km1_ : Int32.toInt (-1) = -1 := by decide
  have k0_ : Int32.toInt 0 = 0 := by decide
  refine lv_iload_n hx hb dX2_put_0 rfl (lv_at hl 1 rfl) ?_
  refine va_calli (va_runS (As := [.int p0]) (rest := []) ⟨hx, hb, hml, hown, hts⟩ (c_X2_isSlot l dC dI TT s.heap.size p0) (va_cwS 1 hts gX2_put_X2_isSlot rfl rfl rfl (by decide +kernel) ⟨Nat.le_of_ble_eq_true rfl, Nat.le_of_ble_eq_true rfl⟩) (pr_S (ws := []) (wA := []) (tys := []) vp_nil (hK.sub [] rfl) vd_nil hst hS (ro_free hS hA)) rfl rfl hl.1 rfl (lv_room (Nat.le_of_ble_eq_true rfl)) dX2_put_1 ⟨Nat.le_of_ble_eq_true rfl, Nat.le_of_ble_eq_true rfl⟩) hS (fun q _ h => (ro_free hS hA) q h) (ro_free hS hA) (fun r_1 u t H1 locs ht hvm hw hB hz1 hk1 hS => ?_)
  have hP := ro_keep hP hk1
  generalize H1 = H at hP hS ⊢
  rcases hw with ⟨rfl, hp_2⟩ | ⟨rfl, hp_2⟩
  · refine lv_if_ne (tgt := 9) hx hb dX2_put_4 (by decide) (fun _ => ?_) (fun c9 => absurd c9 (by decide))
    refine lv_aload_n hx hb dX2_put_9 rfl (lv_at hl 0 rfl) ?_
    obtain ⟨q1_3, pc_3, c1_3, c2_3, c3_3, q5_3, fc_3, q7_3, mc_3, e_3, fq1_3, fc1_3, fc2_3, fc3_3, fq5_3, ffc_3, fq7_3, fmc_3⟩ := hPI.a2 hh0
    obtain ⟨k_3, hk_3⟩ := va_plg hh0.1 e_3
    refine va_get (D := (dC, dI)) (ci := 2) (v := .ref q1_3) (C := RX2) (T := TX2) (N := 9) hx hb hts iX2_ hown hK hP k_3 hk_3 rfl 0 (by decide) (hts (.fieldLink RX2 11 "FieldLeaves" "slots" "[LFieldLeaves$Thing;") (by decide +kernel)) (fun _ h9 => h9) rfl dX2_put_10 ?_
    refine lv_iload_n hx hb dX2_put_13 rfl (lv_at hl 1 rfl) ?_
    obtain ⟨g_4, e_4, fg_4⟩ := hPI.a5 fq1_3
    obtain ⟨k_4, hk_4⟩ := va_plg fq1_3.1 e_4
    have h_4 : vp_in p0 12 := (vp_in_iff.mpr (by constructor <;> omega))
    refine va_aldq hx hb hK hP k_4 0 hk_4 rfl h_4 dX2_put_14 ?_
    have fo_4 := fg_4 _ (vp_lt h_4)
    generalize eo_4 : g_4 (Int32.toNatClampNeg p0) = o_4 at fo_4 ⊢
    rcases o_4 with _ | y_5
    · refine W.eq (g2 := F0 m 15 ls [.null]) rfl ?_
      refine lv_astoreN (lv' := [(4, .null), (0, .ref h0), (1, .int p0), (2, .int p1), (3, .int p2)]) hx hb dX2_put_15 hl (by decide) rfl (fun ls hl => ?_)
      refine lv_aloadN hx hb dX2_put_17 (lv_at hl 0 rfl) ?_
      refine va_calli (va_runS (As := [.null]) (rest := []) ⟨hx, hb, hml, hown, hts⟩ (c_X2_failureOfRow_null l dC dI TT H.size ) (va_cwS 1 hts gX2_put_X2_failureOfRow rfl rfl rfl (by decide +kernel) ⟨Nat.le_of_ble_eq_true rfl, Nat.le_of_ble_eq_true rfl⟩) (pr_S (ws := []) (wA := []) (tys := []) vp_nil (hK.sub [] rfl) vd_nil hst hS (ro_free hS hA)) rfl rfl hl.1 rfl (lv_room (Nat.le_of_ble_eq_true rfl)) dX2_put_19 ⟨Nat.le_of_ble_eq_true rfl, Nat.le_of_ble_eq_true rfl⟩) hS (fun q _ h => (ro_free hS hA) q h) (ro_free hS hA) (fun r_6 u t H1 locs ht hvm hw hB hz1 hk1 hS => ?_)
      have hP := ro_keep hP hk1
      generalize H1 = H at hP hS ⊢
      subst hw
      refine lv_istore (lv' := [(5, .int (-11)), (4, .null), (0, .ref h0), (1, .int p0), (2, .int p1), (3, .int p2)]) hx hb dX2_put_22 hl (by decide) rfl (fun ls hl => ?_)
      refine lv_iload hx hb dX2_put_24 (lv_at hl 0 rfl) ?_
      refine lv_if_eq (tgt := 32) hx hb dX2_put_26 (by decide) (fun c9 => absurd c9 (by decide)) (fun _ => ?_)
      refine lv_iload hx hb dX2_put_29 (lv_at hl 0 rfl) ?_
      exact W.iret (v := (-11)) hx hb hr (fun t ht hW => ⟨⟨(-11), (), rfl, trivial, f, hPI, by rw [ht]; exact hP, hD⟩, hS.F ht⟩) hS.2.2 dX2_put_31
    · have fy_5 := fo_4 y_5 rfl
      refine W.eq (g2 := F0 m 15 ls [.ref y_5]) rfl ?_
      refine lv_astore (lv' := [(4, .ref y_5), (0, .ref h0), (1, .int p0), (2, .int p1), (3, .int p2)]) hx hb dX2_put_15 hl (by decide) rfl (fun ls hl => ?_)
      refine lv_aload hx hb dX2_put_17 (lv_at hl 0 rfl) ?_
      refine va_calli (va_runS (As := [.ref y_5]) (rest := []) ⟨hx, hb, hml, hown, hts⟩ (t_X2_failureOfRow l dC dI TT H.size kT kI kJ K L f hPI y_5 fy_5) (va_cwS 1 hts gX2_put_X2_failureOfRow rfl rfl rfl (by decide +kernel) ⟨Nat.le_of_ble_eq_true rfl, Nat.le_of_ble_eq_true rfl⟩) (pr_S (ws := va_pl L f) (wA := []) (tys := [(kT, .object RX1), (kI, .int), (kJ, .long)]) hP hK vd_nil hst hS (ro_free hS hA)) rfl rfl hl.1 rfl (lv_room (Nat.le_of_ble_eq_true rfl)) dX2_put_19 ⟨Nat.le_of_ble_eq_true rfl, Nat.le_of_ble_eq_true rfl⟩) hS (fun q _ h => (ro_free hS hA) q h) (ro_free hS hA) (fun r_7 u t H1 locs ht hvm hw hB hz1 hk1 hS => ?_)
      have hP := ro_keep hP hk1
      generalize H1 = H at hP hS ⊢
      have ro_8 := hw
      refine lv_istore (lv' := [(5, .int r_7), (4, .ref y_5), (0, .ref h0), (1, .int p0), (2, .int p1), (3, .int p2)]) hx hb dX2_put_22 hl (by decide) rfl (fun ls hl => ?_)
      refine lv_iload hx hb dX2_put_24 (lv_at hl 0 rfl) ?_
      refine lv_if_eq (tgt := 32) hx hb dX2_put_26 (by decide) (fun c_9 => ?_) (fun c_9 => ?_)
      · have c_9 := congrArg Int32.toInt c_9
        refine lv_iload_n hx hb dX2_put_32 rfl (lv_at hl 4 rfl) ?_
        refine lv_if_lt (tgt := 46) hx hb dX2_put_33 (by decide) (fun c_10 => ?_) (fun c_10 => ?_)
        · have c_10 := Int32.lt_iff_toInt_lt.mp c_10
          refine lv_bipush (v := (-12)) hx hb dX2_put_46 (by decide) ?_
          exact W.iret (v := (-12)) hx hb hr (fun t ht hW => ⟨⟨(-12), (), rfl, trivial, f, hPI, by rw [ht]; exact hP, hD⟩, hS.F ht⟩) hS.2.2 dX2_put_48
        · have c_10 := mt Int32.lt_iff_toInt_lt.mpr c_10
          refine lv_iload_n hx hb dX2_put_36 rfl (lv_at hl 4 rfl) ?_
          refine lv_aload hx hb dX2_put_37 (lv_at hl 1 rfl) ?_
          obtain ⟨cn_11, v_11, b_11, m_11, st_11, i_11, e_11, fv_11, fb_11, fm_11, fst_11, fi_11⟩ := hPI.a1 fy_5
          obtain ⟨k_11, hk_11⟩ := va_plg fy_5.1 e_11
          refine va_get (D := (dC, dI)) (ci := 1) (v := va_rf i_11) (C := RX1) (T := TX1) (N := 6) hx hb hts iX1_ hown hK hP k_11 hk_11 rfl 5 (by decide) (hts (.fieldLink RX2 91 "FieldLeaves$Thing" "ints" "[I") (by decide +kernel)) (fun _ h9 => h9) rfl dX2_put_39 ?_
          have nn_11 := ro_8 (by omega) _ _ _ _ _ _ e_11
          rcases i_11 with _ | y_12
          · exact absurd rfl nn_11
          · have fy_12 := fi_11 y_12 rfl
            refine W.eq (g2 := F0 m 42 ls [.ref y_12, .int p1]) rfl ?_
            obtain ⟨n_13, g_13, e_13, fn_13⟩ := hPI.a4 fy_12
            have kn_13 := nI_len fn_13
            obtain ⟨k_13, hk_13⟩ := va_plg fy_12.1 e_13
            refine va_alen hx hb hK hP k_13 1 hk_13 rfl (v := Int32.ofNat n_13) rfl dX2_put_42 ?_
            refine lv_icmp_lt (tgt := 49) hx hb dX2_put_43 (by decide) (fun c_14 => ?_) (fun c_14 => ?_)
            · have c_14 := Int32.lt_iff_toInt_lt.mp c_14
              refine lv_aload hx hb dX2_put_49 (lv_at hl 1 rfl) ?_
              obtain ⟨k_15, hk_15⟩ := va_plg fy_5.1 e_11
              refine va_get (D := (dC, dI)) (ci := 1) (v := va_rf (some y_12)) (C := RX1) (T := TX1) (N := 6) hx hb hts iX1_ hown hK hP k_15 hk_15 rfl 5 (by decide) (hts (.fieldLink RX2 91 "FieldLeaves$Thing" "ints" "[I") (by decide +kernel)) (fun _ h9 => h9) rfl dX2_put_51 ?_
              have nn_15 := ro_8 (by omega) _ _ _ _ _ _ e_11
              have fy_16 := fi_11 y_12 rfl
              refine W.eq (g2 := F0 m 54 ls [.ref y_12]) rfl ?_
              refine lv_iload_n hx hb dX2_put_54 rfl (lv_at hl 4 rfl) ?_
              obtain ⟨k_17, hk_17⟩ := va_plg fy_16.1 e_13
              have h_17 : vp_in p1 n_13 := (vp_in_iff.mpr (by constructor <;> omega))
              refine va_iald hx hb hK hP k_17 1 hk_17 rfl h_17 dX2_put_55 ?_
              refine lv_topi (fun z_17 ez_17 => ?_)
              refine lv_istore (lv' := [(6, .int z_17), (5, .int r_7), (4, .ref y_5), (0, .ref h0), (1, .int p0), (2, .int p1), (3, .int p2)]) hx hb dX2_put_56 hl (by decide) rfl (fun ls hl => ?_)
              refine lv_aload hx hb dX2_put_58 (lv_at hl 2 rfl) ?_
              obtain ⟨k_18, hk_18⟩ := va_plg fy_5.1 e_11
              refine va_get (D := (dC, dI)) (ci := 1) (v := va_rf (some y_12)) (C := RX1) (T := TX1) (N := 6) hx hb hts iX1_ hown hK hP k_18 hk_18 rfl 5 (by decide) (hts (.fieldLink RX2 91 "FieldLeaves$Thing" "ints" "[I") (by decide +kernel)) (fun _ h9 => h9) rfl dX2_put_60 ?_
              have nn_18 := ro_8 (by omega) _ _ _ _ _ _ e_11
              have fy_19 := fi_11 y_12 rfl
              refine W.eq (g2 := F0 m 63 ls [.ref y_12]) rfl ?_
              refine lv_iload_n hx hb dX2_put_63 rfl (lv_at hl 5 rfl) ?_
              refine lv_iload_n hx hb dX2_put_64 rfl (lv_at hl 6 rfl) ?_
              obtain ⟨k_20, hk_20⟩ := va_plg fy_19.1 e_13
              have h_20 : vp_in p1 n_13 := (vp_in_iff.mpr (by constructor <;> omega))
              have hD9 := hD
              refine va_iast hx hb hK hP hD hS k_20 1 hk_20 rfl h_20 dX2_put_65 (fun H locs hP hD hS => ?_)
              have hP : va_P (dC, dI) vwCl (va_pl L (va_up f y_12 (.inl (kI, n_13, .inl (upd g_13 (Int32.toNatClampNeg p1) p2))))) H := by rw [← va_pls hD9 fy_19.1 hk_20 _]; exact hP
              have hD : va_D A (va_pl L (va_up f y_12 (.inl (kI, n_13, .inl (upd g_13 (Int32.toNatClampNeg p1) p2))))) := by rw [← va_pls hD9 fy_19.1 hk_20 _]; exact hD
              have hPI := hPI.put (e := .inl (kI, n_13, .inl (upd g_13 (Int32.toNatClampNeg p1) p2))) fy_19 ⟨_, _, rfl, fn_13⟩
              have es_f_21 : va_up f y_12 (.inl (kI, n_13, .inl (upd g_13 (Int32.toNatClampNeg p1) p2))) y_12 = .inl (kI, n_13, .inl (upd g_13 (Int32.toNatClampNeg p1) p2)) := va_up_self _ _ _
              have eq_22 := (va_up_ne f (.inl (kI, n_13, .inl (upd g_13 (Int32.toNatClampNeg p1) p2))) (isr_ne hh0 fy_19 (by decide))).trans e_3
              have eq_23 := (va_up_ne f (.inl (kI, n_13, .inl (upd g_13 (Int32.toNatClampNeg p1) p2))) (isr_ne fy_5 fy_19 (by decide))).trans e_11
              have eq_24 := (va_up_ne f (.inl (kI, n_13, .inl (upd g_13 (Int32.toNatClampNeg p1) p2))) (isr_ne fq1_3 fy_19 (by decide))).trans e_4
              generalize va_up f y_12 (.inl (kI, n_13, .inl (upd g_13 (Int32.toNatClampNeg p1) p2))) = f_21 at hP hD hPI es_f_21 eq_22 eq_23 eq_24
              refine lv_iload hx hb dX2_put_66 (lv_at hl 0 rfl) ?_
              exact W.iret (v := z_17) hx hb hr (fun t ht hW => ⟨⟨z_17, (), rfl, trivial, f_21, hPI, by rw [ht]; exact hP, hD⟩, hS.F ht⟩) hS.2.2 dX2_put_68
            · have c_14 := mt Int32.lt_iff_toInt_lt.mpr c_14
              refine lv_bipush (v := (-12)) hx hb dX2_put_46 (by decide) ?_
              exact W.iret (v := (-12)) hx hb hr (fun t ht hW => ⟨⟨(-12), (), rfl, trivial, f, hPI, by rw [ht]; exact hP, hD⟩, hS.F ht⟩) hS.2.2 dX2_put_48
      · have c_9 := mt Int32.toInt_inj.mp c_9
        refine lv_iload hx hb dX2_put_29 (lv_at hl 0 rfl) ?_
        exact W.iret (v := r_7) hx hb hr (fun t ht hW => ⟨⟨r_7, (), rfl, trivial, f, hPI, by rw [ht]; exact hP, hD⟩, hS.F ht⟩) hS.2.2 dX2_put_31
  · refine lv_if_ne (tgt := 9) hx hb dX2_put_4 (by decide) (fun c9 => absurd c9 (by decide)) (fun _ => ?_)
    refine lv_iconst (v := (-1)) hx hb dX2_put_7 (by decide) ?_
    exact W.iret (v := (-1)) hx hb hr (fun t ht hW => ⟨⟨(-1), (), rfl, trivial, f, hPI, by rw [ht]; exact hP, hD⟩, hS.F ht⟩) hS.2.2 dX2_put_8
set_option maxRecDepth 20000 in
theorem in_t_X2_passes_X2 : ∀ w ∈ u_ws RX2 TX2 9, w ∈ wsX2_passes := by decide +kernel
set_option maxRecDepth 100000 in
set_option maxHeartbeats 4000000 in
theorem t_X2_passes (l : Launch) (dC : Nat → ClassId) (dI : Nat → Nat → Nat) (TT : Nat × Nat × Nat) (sz : Nat) (kT kI kJ : ClassId) (K : Nat → Nat) (L : List Nat) (f : Nat → va_E) (hPI : PI kT kI kJ K L f) (h0 : Nat) (hh0 : isr K L 2 h0) (p0 : Int32) (p1 : Int32) : Met l yX2_passes wsX2_passes ({ frames := 3, cells := 0, slots := 0, locals := 63 } : Room) (va_Pc [.ref h0, .int p0, .int p1] (pr dC dI (va_pl L f) (va_pl L f) [(kT, .object RX1), (kI, .int), (kJ, .long)] sz TT)) (va_Qi (fun (r : Int32) (u : Unit) => True) (fun (_ : Unit) t => ∃ f2 : Nat → va_E, PI kT kI kJ K L f2 ∧ va_P (dC, dI) vwCl (va_pl L f2) t.heap ∧ va_D (va_A (va_pl L f) sz) (va_pl L f2)) (va_A (va_pl L f) sz)) 0 0 (va_A (va_pl L f) sz) := by
  refine Met.ofW (cc := cX2_passes) (maxL := 3) (ret := (some .int)) (by decide) rfl ?_
  intro p e s m args below meth c s₁ B hml hv
  obtain ⟨rfl, hsz, hP, hK, hD0, hst⟩ := hv
  have hx := B.exec
  have hb := B.bytes
  have hr := B.returns
  have hts := atoms_spec (ws := wsX2_passes) B.pre
  have hown : s.vm.findClass RX2 = some m.cls := findClass_of_methodNamed B.named
  have hlocks := B.notSynchronized
  have iX2_ := in_t_X2_passes_X2
  subst hsz
  have hD := hD0.self (sz := s.heap.size)
  generalize hAe : va_A (va_pl L f) s.heap.size = A at hD hst ⊢
  have hA : ∀ q : Nat, s.heap.size ≤ q → A q := fun q h => by rw [← hAe]; exact Or.inr h
  have hS : va_S A s.heap s.heap [] := va_S.rf
  have hl := lv_entry ([.ref h0, .int p0, .int p1]) (n := 3) (Nat.le_of_ble_eq_true rfl)
  rw [lg_entry_eq]
  generalize (lg_sl ([.ref h0, .int p0, .int p1]) ++ List.replicate (3 - (lg_sl ([.ref h0, .int p0, .int p1])).length) Slot.unset).toArray = ls at hl ⊢
  have hl : lv_has ls 3 [(0, .ref h0), (1, .int p0), (2, .int p1)] := hl
  have km11_ : Int32.toInt (-11) = -11 := by decide
  have km1_ : Int32.toInt (-1) = -1 := by decide
  have k1_ : Int32.toInt 1 = 1 := by decide
  have k12_ : Int32.toInt 12 = 12 := by decide
  refine lv_iload_n hx hb dX2_passes_0 rfl (lv_at hl 1 rfl) ?_
  refine va_calli (va_runS (As := [.int p0]) (rest := []) ⟨hx, hb, hml, hown, hts⟩ (c_X2_isSlot l dC dI TT s.heap.size p0) (va_cwS 1 hts gX2_passes_X2_isSlot rfl rfl rfl (by decide +kernel) ⟨Nat.le_of_ble_eq_true rfl, Nat.le_of_ble_eq_true rfl⟩) (pr_S (ws := []) (wA := []) (tys := []) vp_nil (hK.sub [] rfl) vd_nil hst hS (ro_free hS hA)) rfl rfl hl.1 rfl (lv_room (Nat.le_of_ble_eq_true rfl)) dX2_passes_1 ⟨Nat.le_of_ble_eq_true rfl, Nat.le_of_ble_eq_true rfl⟩) hS (fun q _ h => (ro_free hS hA) q h) (ro_free hS hA) (fun r_1 u t H1 locs ht hvm hw hB hz1 hk1 hS => ?_)
  have hP := ro_keep hP hk1
  generalize H1 = H at hP hS ⊢
  rcases hw with ⟨rfl, hp_2⟩ | ⟨rfl, hp_2⟩
  · refine lv_if_eq (tgt := 18) hx hb dX2_passes_4 (by decide) (fun c9 => absurd c9 (by decide)) (fun _ => ?_)
    refine lv_iload_n hx hb dX2_passes_7 rfl (lv_at hl 2 rfl) ?_
    refine lv_iconst (v := 1) hx hb dX2_passes_8 (by decide) ?_
    refine lv_icmp_lt (tgt := 18) hx hb dX2_passes_9 (by decide) (fun c_3 => ?_) (fun c_3 => ?_)
    · have c_3 := Int32.lt_iff_toInt_lt.mp c_3
      refine lv_iconst (v := (-1)) hx hb dX2_passes_18 (by decide) ?_
      exact W.iret (v := (-1)) hx hb hr (fun t ht hW => ⟨⟨(-1), (), rfl, trivial, f, hPI, by rw [ht]; exact hP, hD⟩, hS.F ht⟩) hS.2.2 dX2_passes_19
    · have c_3 := mt Int32.lt_iff_toInt_lt.mpr c_3
      refine lv_iload_n hx hb dX2_passes_12 rfl (lv_at hl 2 rfl) ?_
      refine lv_bipush (v := 12) hx hb dX2_passes_13 (by decide) ?_
      refine lv_icmp_le (tgt := 20) hx hb dX2_passes_15 (by decide) (fun c_4 => ?_) (fun c_4 => ?_)
      · have c_4 := Int32.le_iff_toInt_le.mp c_4
        refine lv_aload_n hx hb dX2_passes_20 rfl (lv_at hl 0 rfl) ?_
        refine lv_iload_n hx hb dX2_passes_21 rfl (lv_at hl 2 rfl) ?_
        obtain ⟨q1_5, pc_5, c1_5, c2_5, c3_5, q5_5, fc_5, q7_5, mc_5, e_5, fq1_5, fc1_5, fc2_5, fc3_5, fq5_5, ffc_5, fq7_5, fmc_5⟩ := hPI.a2 hh0
        obtain ⟨k_5, hk_5⟩ := va_plg hh0.1 e_5
        have hD9 := hD
        refine va_put (D := (dC, dI)) (ci := 2) (v := .int p1) (ty := .int) (C := RX2) (T := TX2) (N := 9) hx hb hts iX2_ tyX2 tyX2_ok nmX2 hown hK hP hD hS k_5 hk_5 rfl 1 (by decide) (hts (.fieldLink RX2 121 "FieldLeaves" "passedCount" "I") (by decide +kernel)) (fun _ h9 => h9) rfl (by decide +kernel) rfl rfl (Nat.le_of_ble_eq_true rfl) dX2_passes_22 (fun H locs hP hD hS => ?_)
        have hP : va_P (dC, dI) vwCl (va_pl L (va_up f h0 (.inr (2, [.ref q1_5, .int p1, .ref c1_5, .ref c2_5, .ref c3_5, .ref q5_5, .int fc_5, .ref q7_5, .int mc_5])))) H := by rw [← va_pls hD9 hh0.1 hk_5 _]; exact hP
        have hD : va_D A (va_pl L (va_up f h0 (.inr (2, [.ref q1_5, .int p1, .ref c1_5, .ref c2_5, .ref c3_5, .ref q5_5, .int fc_5, .ref q7_5, .int mc_5])))) := by rw [← va_pls hD9 hh0.1 hk_5 _]; exact hD
        have hPI := hPI.put (e := .inr (2, [.ref q1_5, .int p1, .ref c1_5, .ref c2_5, .ref c3_5, .ref q5_5, .int fc_5, .ref q7_5, .int mc_5])) hh0 ⟨q1_5, p1, c1_5, c2_5, c3_5, q5_5, fc_5, q7_5, mc_5, rfl, fq1_5, fc1_5, fc2_5, fc3_5, fq5_5, ffc_5, fq7_5, fmc_5⟩
        have es_f_6 : va_up f h0 (.inr (2, [.ref q1_5, .int p1, .ref c1_5, .ref c2_5, .ref c3_5, .ref q5_5, .int fc_5, .ref q7_5, .int mc_5])) h0 = .inr (2, [.ref q1_5, .int p1, .ref c1_5, .ref c2_5, .ref c3_5, .ref q5_5, .int fc_5, .ref q7_5, .int mc_5]) := va_up_self _ _ _
        generalize va_up f h0 (.inr (2, [.ref q1_5, .int p1, .ref c1_5, .ref c2_5, .ref c3_5, .ref q5_5, .int fc_5, .ref q7_5, .int mc_5])) = f_6 at hP hD hPI es_f_6 
        refine lv_aload_n hx hb dX2_passes_25 rfl (lv_at hl 0 rfl) ?_
        obtain ⟨k_7, hk_7⟩ := va_plg hh0.1 es_f_6
        refine va_get (D := (dC, dI)) (ci := 2) (v := .ref q1_5) (C := RX2) (T := TX2) (N := 9) hx hb hts iX2_ hown hK hP k_7 hk_7 rfl 0 (by decide) (hts (.fieldLink RX2 11 "FieldLeaves" "slots" "[LFieldLeaves$Thing;") (by decide +kernel)) (fun _ h9 => h9) rfl dX2_passes_26 ?_
        refine lv_iload_n hx hb dX2_passes_29 rfl (lv_at hl 1 rfl) ?_
        obtain ⟨g_8, e_8, fg_8⟩ := hPI.a5 fq1_5
        obtain ⟨k_8, hk_8⟩ := va_plg fq1_5.1 e_8
        have h_8 : vp_in p0 12 := (vp_in_iff.mpr (by constructor <;> omega))
        refine va_aldq hx hb hK hP k_8 0 hk_8 rfl h_8 dX2_passes_30 ?_
        have fo_8 := fg_8 _ (vp_lt h_8)
        generalize eo_8 : g_8 (Int32.toNatClampNeg p0) = o_8 at fo_8 ⊢
        rcases o_8 with _ | y_9
        · refine W.eq (g2 := F0 m 31 ls [.null]) rfl ?_
          refine va_calli (va_runS (As := [.null]) (rest := []) ⟨hx, hb, hml, hown, hts⟩ (c_X2_thrown_null l dC dI TT H.size ) (va_cwS 1 hts gX2_passes_X2_thrown rfl rfl rfl (by decide +kernel) ⟨Nat.le_of_ble_eq_true rfl, Nat.le_of_ble_eq_true rfl⟩) (pr_S (ws := []) (wA := []) (tys := []) vp_nil (hK.sub [] rfl) vd_nil hst hS (ro_free hS hA)) rfl rfl hl.1 rfl (lv_room (Nat.le_of_ble_eq_true rfl)) dX2_passes_31 ⟨Nat.le_of_ble_eq_true rfl, Nat.le_of_ble_eq_true rfl⟩) hS (fun q _ h => (ro_free hS hA) q h) (ro_free hS hA) (fun r_10 u t H1 locs ht hvm hw hB hz1 hk1 hS => ?_)
          have hP := ro_keep hP hk1
          generalize H1 = H at hP hS ⊢
          subst hw
          exact W.iret (v := (-11)) hx hb hr (fun t ht hW => ⟨⟨(-11), (), rfl, trivial, f_6, hPI, by rw [ht]; exact hP, hD⟩, hS.F ht⟩) hS.2.2 dX2_passes_34
        · have fy_9 := fo_8 y_9 rfl
          refine W.eq (g2 := F0 m 31 ls [.ref y_9]) rfl ?_
          refine va_calli (va_runS (As := [.ref y_9]) (rest := []) ⟨hx, hb, hml, hown, hts⟩ (t_X2_thrown l dC dI TT H.size kT kI kJ K L f_6 hPI y_9 fy_9 ) (va_cwS 1 hts gX2_passes_X2_thrown rfl rfl rfl (by decide +kernel) ⟨Nat.le_of_ble_eq_true rfl, Nat.le_of_ble_eq_true rfl⟩) (pr_S (ws := va_pl L f_6) (wA := []) (tys := [(kT, .object RX1), (kI, .int), (kJ, .long)]) hP hK vd_nil hst hS (ro_free hS hA)) rfl rfl hl.1 rfl (lv_room (Nat.le_of_ble_eq_true rfl)) dX2_passes_31 ⟨Nat.le_of_ble_eq_true rfl, Nat.le_of_ble_eq_true rfl⟩) hS (fun q _ h => (ro_free hS hA) q h) (ro_free hS hA) (fun r_11 u t H1 locs ht hvm hw hB hz1 hk1 hS => ?_)
          have hP := ro_keep hP hk1
          generalize H1 = H at hP hS ⊢
          exact W.iret (v := r_11) hx hb hr (fun t ht hW => ⟨⟨r_11, (), rfl, trivial, f_6, hPI, by rw [ht]; exact hP, hD⟩, hS.F ht⟩) hS.2.2 dX2_passes_34
      · have c_4 := mt Int32.le_iff_toInt_le.mpr c_4
        refine lv_iconst (v := (-1)) hx hb dX2_passes_18 (by decide) ?_
        exact W.iret (v := (-1)) hx hb hr (fun t ht hW => ⟨⟨(-1), (), rfl, trivial, f, hPI, by rw [ht]; exact hP, hD⟩, hS.F ht⟩) hS.2.2 dX2_passes_19
  · refine lv_if_eq (tgt := 18) hx hb dX2_passes_4 (by decide) (fun _ => ?_) (fun c9 => absurd c9 (by decide))
    refine lv_iconst (v := (-1)) hx hb dX2_passes_18 (by decide) ?_
    exact W.iret (v := (-1)) hx hb hr (fun t ht hW => ⟨⟨(-1), (), rfl, trivial, f, hPI, by rw [ht]; exact hP, hD⟩, hS.F ht⟩) hS.2.2 dX2_passes_19
set_option maxRecDepth 20000 in
theorem in_t_X2_alter_X0 : ∀ w ∈ u_ws RX0 TX0 4, w ∈ wsX2_alter := by decide +kernel
set_option maxRecDepth 20000 in
theorem in_t_X2_alter_X2 : ∀ w ∈ u_ws RX2 TX2 9, w ∈ wsX2_alter := by decide +kernel
set_option maxRecDepth 100000 in
set_option maxHeartbeats 4000000 in
theorem t_X2_alter (l : Launch) (dC : Nat → ClassId) (dI : Nat → Nat → Nat) (TT : Nat × Nat × Nat) (sz : Nat) (kT kI kJ : ClassId) (K : Nat → Nat) (L : List Nat) (f : Nat → va_E) (hPI : PI kT kI kJ K L f) (h0 : Nat) (hh0 : isr K L 2 h0) (p0 : Int32) (p1 : Int64) : Met l yX2_alter wsX2_alter ({ frames := 1, cells := 0, slots := 0, locals := 21 } : Room) (va_Pc [.ref h0, .int p0, .long p1] (pr dC dI (va_pl L f) (va_pl L f) [(kT, .object RX1), (kI, .int), (kJ, .long)] sz TT)) (va_Qi (fun (r : Int32) (u : Unit) => True) (fun (_ : Unit) t => ∃ f2 : Nat → va_E, PI kT kI kJ K L f2 ∧ va_P (dC, dI) vwCl (va_pl L f2) t.heap ∧ va_D (va_A (va_pl L f) sz) (va_pl L f2)) (va_A (va_pl L f) sz)) 0 0 (va_A (va_pl L f) sz) := by
  refine Met.ofW (cc := cX2_alter) (maxL := 4) (ret := (some .int)) (by decide) rfl ?_
  intro p e s m args below meth c s₁ B hml hv
  obtain ⟨rfl, hsz, hP, hK, hD0, hst⟩ := hv
  have hx := B.exec
  have hb := B.bytes
  have hr := B.returns
  have hts := atoms_spec (ws := wsX2_alter) B.pre
  have hown : s.vm.findClass RX2 = some m.cls := findClass_of_methodNamed B.named
  have hlocks := B.notSynchronized
  have iX0_ := in_t_X2_alter_X0
  have iX2_ := in_t_X2_alter_X2
  subst hsz
  have hD := hD0.self (sz := s.heap.size)
  generalize hAe : va_A (va_pl L f) s.heap.size = A at hD hst ⊢
  have hA : ∀ q : Nat, s.heap.size ≤ q → A q := fun q h => by rw [← hAe]; exact Or.inr h
  have hS : va_S A s.heap s.heap [] := va_S.rf
  have hl := lv_entry ([.ref h0, .int p0, .long p1]) (n := 4) (Nat.le_of_ble_eq_true rfl)
  rw [lg_entry_eq]
  generalize (lg_sl ([.ref h0, .int p0, .long p1]) ++ List.replicate (4 - (lg_sl ([.ref h0, .int p0, .long p1])).length) Slot.unset).toArray = ls at hl ⊢
  have hl : lv_has ls 4 [(0, .ref h0), (1, .int p0), (2, .long p1)] := hl
  have km1_ : Int32.toInt (-1) = -1 := by decide
  have k1_ : Int32.toInt 1 = 1 := by decide
  have k9_ : Int32.toInt 9 = 9 := by decide
  refine lv_aload_n hx hb dX2_alter_0 rfl (lv_at hl 0 rfl) ?_
  obtain ⟨q1_1, pc_1, c1_1, c2_1, c3_1, q5_1, fc_1, q7_1, mc_1, e_1, fq1_1, fc1_1, fc2_1, fc3_1, fq5_1, ffc_1, fq7_1, fmc_1⟩ := hPI.a2 hh0
  obtain ⟨k_1, hk_1⟩ := va_plg hh0.1 e_1
  refine va_get (D := (dC, dI)) (ci := 2) (v := .ref c1_1) (C := RX2) (T := TX2) (N := 9) hx hb hts iX2_ hown hK hP k_1 hk_1 rfl 2 (by decide) (hts (.fieldLink RX2 18 "FieldLeaves" "current" "LFieldLeaves$LeafList;") (by decide +kernel)) (fun _ h9 => h9) rfl dX2_alter_1 ?_
  refine lv_iload_n hx hb dX2_alter_4 rfl (lv_at hl 1 rfl) ?_
  obtain ⟨n_2, d_2, v_2, z_2, e_2, fn_2, fd_2, fv_2, fz_2⟩ := hPI.a0 fc1_1
  obtain ⟨k_2, hk_2⟩ := va_plg fc1_1.1 e_2
  refine va_calli (va_runV (b := c1_1) (As := [.int p0]) (rest := []) ⟨hx, hb, hml, hown, hts⟩ (t_X0_has l dC dI TT s.heap.size kT kI kJ K L f hPI c1_1 fc1_1 p0) (cwV 1 hts gX2_alter_X0_has rfl rfl rfl (by decide +kernel) ⟨Nat.le_of_ble_eq_true rfl, Nat.le_of_ble_eq_true rfl⟩) ⟨pr_blind, va_recv hK hP (ci := 0) rfl hk_2, (pr_S (ws := va_pl L f) (wA := []) (tys := [(kT, .object RX1), (kI, .int), (kJ, .long)]) hP hK vd_nil hst hS (ro_free hS hA)).2⟩ rfl rfl hl.1 rfl (lv_room (Nat.le_of_ble_eq_true rfl)) dX2_alter_5 ⟨Nat.le_of_ble_eq_true rfl, Nat.le_of_ble_eq_true rfl⟩) hS (fun q _ h => (ro_free hS hA) q h) (ro_free hS hA) (fun r_3 u t H1 locs ht hvm hw hB hz1 hk1 hS => ?_)
  have hP := ro_keep hP hk1
  generalize H1 = H at hP hS ⊢
  obtain ⟨h01, hw⟩ := hw
  rcases h01 with rfl | rfl
  · have hw := hw rfl
    refine lv_if_eq (tgt := 38) hx hb dX2_alter_8 (by decide) (fun c9 => absurd c9 (by decide)) (fun _ => ?_)
    refine lv_aload_n hx hb dX2_alter_11 rfl (lv_at hl 0 rfl) ?_
    obtain ⟨k_4, hk_4⟩ := va_plg hh0.1 e_1
    refine va_get (D := (dC, dI)) (ci := 2) (v := .ref c1_1) (C := RX2) (T := TX2) (N := 9) hx hb hts iX2_ hown hK hP k_4 hk_4 rfl 2 (by decide) (hts (.fieldLink RX2 18 "FieldLeaves" "current" "LFieldLeaves$LeafList;") (by decide +kernel)) (fun _ h9 => h9) rfl dX2_alter_12 ?_
    obtain ⟨k_5, hk_5⟩ := va_plg fc1_1.1 e_2
    refine va_get (D := (dC, dI)) (ci := 0) (v := .ref d_2) (C := RX0) (T := TX0) (N := 4) hx hb hts iX0_ hown hK hP k_5 hk_5 rfl 1 (by decide) (hts (.fieldLink RX2 137 "FieldLeaves$LeafList" "fields" "[I") (by decide +kernel)) (fun _ h9 => h9) rfl dX2_alter_15 ?_
    refine lv_iload_n hx hb dX2_alter_18 rfl (lv_at hl 1 rfl) ?_
    obtain ⟨g_6, e_6⟩ := hPI.a7 fd_2
    obtain ⟨k_6, hk_6⟩ := va_plg fd_2.1 e_6
    have h_6 : vp_in p0 300 := (vp_in_iff.mpr (by constructor <;> omega))
    refine va_iald hx hb hK hP k_6 1 hk_6 rfl h_6 dX2_alter_19 ?_
    refine lv_topi (fun z_6 ez_6 => ?_)
    refine lv_iconst (v := (-1)) hx hb dX2_alter_20 (by decide) ?_
    refine lv_icmp_eq (tgt := 38) hx hb dX2_alter_21 (by decide) (fun c_7 => ?_) (fun c_7 => ?_)
    · have c_7 := congrArg Int32.toInt c_7
      refine lv_iconst (v := (-1)) hx hb dX2_alter_38 (by decide) ?_
      exact W.iret (v := (-1)) hx hb hr (fun t ht hW => ⟨⟨(-1), (), rfl, trivial, f, hPI, by rw [ht]; exact hP, hD⟩, hS.F ht⟩) hS.2.2 dX2_alter_39
    · have c_7 := mt Int32.toInt_inj.mp c_7
      refine lv_aload_n hx hb dX2_alter_24 rfl (lv_at hl 0 rfl) ?_
      obtain ⟨k_8, hk_8⟩ := va_plg hh0.1 e_1
      refine va_get (D := (dC, dI)) (ci := 2) (v := .ref c1_1) (C := RX2) (T := TX2) (N := 9) hx hb hts iX2_ hown hK hP k_8 hk_8 rfl 2 (by decide) (hts (.fieldLink RX2 18 "FieldLeaves" "current" "LFieldLeaves$LeafList;") (by decide +kernel)) (fun _ h9 => h9) rfl dX2_alter_25 ?_
      obtain ⟨k_9, hk_9⟩ := va_plg fc1_1.1 e_2
      refine va_get (D := (dC, dI)) (ci := 0) (v := .ref d_2) (C := RX0) (T := TX0) (N := 4) hx hb hts iX0_ hown hK hP k_9 hk_9 rfl 1 (by decide) (hts (.fieldLink RX2 137 "FieldLeaves$LeafList" "fields" "[I") (by decide +kernel)) (fun _ h9 => h9) rfl dX2_alter_28 ?_
      refine lv_iload_n hx hb dX2_alter_31 rfl (lv_at hl 1 rfl) ?_
      obtain ⟨k_10, hk_10⟩ := va_plg fd_2.1 e_6
      have h_10 : vp_in p0 300 := (vp_in_iff.mpr (by constructor <;> omega))
      refine va_iald hx hb hK hP k_10 1 hk_10 rfl h_10 dX2_alter_32 ?_
      refine lv_topi (fun z_10 ez_10 => ?_)
      obtain rfl : z_6 = z_10 := ez_6.trans ez_10.symm
      refine lv_bipush (v := 9) hx hb dX2_alter_33 (by decide) ?_
      refine lv_icmp_ne (tgt := 40) hx hb dX2_alter_35 (by decide) (fun c_11 => ?_) (fun c_11 => ?_)
      · have c_11 := mt Int32.toInt_inj.mp c_11
        refine lv_aload_n hx hb dX2_alter_40 rfl (lv_at hl 0 rfl) ?_
        obtain ⟨k_12, hk_12⟩ := va_plg hh0.1 e_1
        refine va_get (D := (dC, dI)) (ci := 2) (v := .ref c1_1) (C := RX2) (T := TX2) (N := 9) hx hb hts iX2_ hown hK hP k_12 hk_12 rfl 2 (by decide) (hts (.fieldLink RX2 18 "FieldLeaves" "current" "LFieldLeaves$LeafList;") (by decide +kernel)) (fun _ h9 => h9) rfl dX2_alter_41 ?_
        obtain ⟨k_13, hk_13⟩ := va_plg fc1_1.1 e_2
        refine va_get (D := (dC, dI)) (ci := 0) (v := .ref v_2) (C := RX0) (T := TX0) (N := 4) hx hb hts iX0_ hown hK hP k_13 hk_13 rfl 2 (by decide) (hts (.fieldLink RX2 140 "FieldLeaves$LeafList" "values" "[J") (by decide +kernel)) (fun _ h9 => h9) rfl dX2_alter_44 ?_
        refine lv_iload_n hx hb dX2_alter_47 rfl (lv_at hl 1 rfl) ?_
        refine lv_lload_n hx hb dX2_alter_48 rfl (lv_at hl 2 rfl) ?_
        obtain ⟨g_14, e_14⟩ := hPI.a8 fv_2
        obtain ⟨k_14, hk_14⟩ := va_plg fv_2.1 e_14
        have h_14 : vp_in p0 300 := (vp_in_iff.mpr (by constructor <;> omega))
        have hD9 := hD
        refine va_last hx hb hK hP hD hS k_14 2 hk_14 rfl h_14 dX2_alter_49 (fun H locs hP hD hS => ?_)
        have hP : va_P (dC, dI) vwCl (va_pl L (va_up f v_2 (.inl (kJ, 300, .inr (.inl (vp_updL g_14 (Int32.toNatClampNeg p0) p1)))))) H := by rw [← va_pls hD9 fv_2.1 hk_14 _]; exact hP
        have hD : va_D A (va_pl L (va_up f v_2 (.inl (kJ, 300, .inr (.inl (vp_updL g_14 (Int32.toNatClampNeg p0) p1)))))) := by rw [← va_pls hD9 fv_2.1 hk_14 _]; exact hD
        have hPI := hPI.put (e := .inl (kJ, 300, .inr (.inl (vp_updL g_14 (Int32.toNatClampNeg p0) p1)))) fv_2 ⟨_, rfl⟩
        have es_f_15 : va_up f v_2 (.inl (kJ, 300, .inr (.inl (vp_updL g_14 (Int32.toNatClampNeg p0) p1)))) v_2 = .inl (kJ, 300, .inr (.inl (vp_updL g_14 (Int32.toNatClampNeg p0) p1))) := va_up_self _ _ _
        have eq_16 := (va_up_ne f (.inl (kJ, 300, .inr (.inl (vp_updL g_14 (Int32.toNatClampNeg p0) p1)))) (isr_ne hh0 fv_2 (by decide))).trans e_1
        have eq_17 := (va_up_ne f (.inl (kJ, 300, .inr (.inl (vp_updL g_14 (Int32.toNatClampNeg p0) p1)))) (isr_ne fc1_1 fv_2 (by decide))).trans e_2
        have eq_18 := (va_up_ne f (.inl (kJ, 300, .inr (.inl (vp_updL g_14 (Int32.toNatClampNeg p0) p1)))) (isr_ne fd_2 fv_2 (by decide))).trans e_6
        generalize va_up f v_2 (.inl (kJ, 300, .inr (.inl (vp_updL g_14 (Int32.toNatClampNeg p0) p1)))) = f_15 at hP hD hPI es_f_15 eq_16 eq_17 eq_18
        refine lv_iconst (v := 1) hx hb dX2_alter_50 (by decide) ?_
        exact W.iret (v := 1) hx hb hr (fun t ht hW => ⟨⟨1, (), rfl, trivial, f_15, hPI, by rw [ht]; exact hP, hD⟩, hS.F ht⟩) hS.2.2 dX2_alter_51
      · have c_11 := congrArg Int32.toInt c_11
        refine lv_iconst (v := (-1)) hx hb dX2_alter_38 (by decide) ?_
        exact W.iret (v := (-1)) hx hb hr (fun t ht hW => ⟨⟨(-1), (), rfl, trivial, f, hPI, by rw [ht]; exact hP, hD⟩, hS.F ht⟩) hS.2.2 dX2_alter_39
  · refine lv_if_eq (tgt := 38) hx hb dX2_alter_8 (by decide) (fun _ => ?_) (fun c9 => absurd c9 (by decide))
    refine lv_iconst (v := (-1)) hx hb dX2_alter_38 (by decide) ?_
    exact W.iret (v := (-1)) hx hb hr (fun t ht hW => ⟨⟨(-1), (), rfl, trivial, f, hPI, by rw [ht]; exact hP, hD⟩, hS.F ht⟩) hS.2.2 dX2_alter_39
set_option maxRecDepth 20000 in
theorem in_t_X2_share_X2 : ∀ w ∈ u_ws RX2 TX2 9, w ∈ wsX2_share := by decide +kernel
set_option maxRecDepth 100000 in
set_option maxHeartbeats 4000000 in
theorem t_X2_share (l : Launch) (dC : Nat → ClassId) (dI : Nat → Nat → Nat) (TT : Nat × Nat × Nat) (sz : Nat) (kT kI kJ : ClassId) (K : Nat → Nat) (L : List Nat) (f : Nat → va_E) (hPI : PI kT kI kJ K L f) (h0 : Nat) (hh0 : isr K L 2 h0) (p0 : Int32) (p1 : Int32) : Met l yX2_share wsX2_share ({ frames := 1, cells := 0, slots := 0, locals := 20 } : Room) (va_Pc [.ref h0, .int p0, .int p1] (pr dC dI (va_pl L f) (va_pl L f) [(kT, .object RX1), (kI, .int), (kJ, .long)] sz TT)) (va_Qi (fun (r : Int32) (u : Unit) => r = sp_share p0 p1) (fun (_ : Unit) t => ∃ f2 : Nat → va_E, PI kT kI kJ K L f2 ∧ va_P (dC, dI) vwCl (va_pl L f2) t.heap ∧ va_D (va_A (va_pl L f) sz) (va_pl L f2)) (va_A (va_pl L f) sz)) 0 0 (va_A (va_pl L f) sz) := by
  refine Met.ofW (cc := cX2_share) (maxL := 3) (ret := (some .int)) (by decide) rfl ?_
  intro p e s m args below meth c s₁ B hml hv
  obtain ⟨rfl, hsz, hP, hK, hD0, hst⟩ := hv
  have hx := B.exec
  have hb := B.bytes
  have hr := B.returns
  have hts := atoms_spec (ws := wsX2_share) B.pre
  have hown : s.vm.findClass RX2 = some m.cls := findClass_of_methodNamed B.named
  have hlocks := B.notSynchronized
  have iX2_ := in_t_X2_share_X2
  subst hsz
  have hD := hD0.self (sz := s.heap.size)
  generalize hAe : va_A (va_pl L f) s.heap.size = A at hD hst ⊢
  have hA : ∀ q : Nat, s.heap.size ≤ q → A q := fun q h => by rw [← hAe]; exact Or.inr h
  have hS : va_S A s.heap s.heap [] := va_S.rf
  have hl := lv_entry ([.ref h0, .int p0, .int p1]) (n := 3) (Nat.le_of_ble_eq_true rfl)
  rw [lg_entry_eq]
  generalize (lg_sl ([.ref h0, .int p0, .int p1]) ++ List.replicate (3 - (lg_sl ([.ref h0, .int p0, .int p1])).length) Slot.unset).toArray = ls at hl ⊢
  have hl : lv_has ls 3 [(0, .ref h0), (1, .int p0), (2, .int p1)] := hl
  have km1_ : Int32.toInt (-1) = -1 := by decide
  have k1_ : Int32.toInt 1 = 1 := by decide
  refine lv_iload_n hx hb dX2_share_0 rfl (lv_at hl 1 rfl) ?_
  refine va_calli (va_runS (As := [.int p0]) (rest := []) ⟨hx, hb, hml, hown, hts⟩ (c_X2_isSlot l dC dI TT s.heap.size p0) (va_cwS 1 hts gX2_share_X2_isSlot rfl rfl rfl (by decide +kernel) ⟨Nat.le_of_ble_eq_true rfl, Nat.le_of_ble_eq_true rfl⟩) (pr_S (ws := []) (wA := []) (tys := []) vp_nil (hK.sub [] rfl) vd_nil hst hS (ro_free hS hA)) rfl rfl hl.1 rfl (lv_room (Nat.le_of_ble_eq_true rfl)) dX2_share_1 ⟨Nat.le_of_ble_eq_true rfl, Nat.le_of_ble_eq_true rfl⟩) hS (fun q _ h => (ro_free hS hA) q h) (ro_free hS hA) (fun r_1 u t H1 locs ht hvm hw hB hz1 hk1 hS => ?_)
  have hP := ro_keep hP hk1
  generalize H1 = H at hP hS ⊢
  rcases hw with ⟨rfl, hp_2⟩ | ⟨rfl, hp_2⟩
  · refine lv_if_eq (tgt := 14) hx hb dX2_share_4 (by decide) (fun c9 => absurd c9 (by decide)) (fun _ => ?_)
    refine lv_iload_n hx hb dX2_share_7 rfl (lv_at hl 2 rfl) ?_
    refine va_calli (va_runS (As := [.int p1]) (rest := []) ⟨hx, hb, hml, hown, hts⟩ (c_X2_isSlot l dC dI TT H.size p1) (va_cwS 1 hts gX2_share_X2_isSlot rfl rfl rfl (by decide +kernel) ⟨Nat.le_of_ble_eq_true rfl, Nat.le_of_ble_eq_true rfl⟩) (pr_S (ws := []) (wA := []) (tys := []) vp_nil (hK.sub [] rfl) vd_nil hst hS (ro_free hS hA)) rfl rfl hl.1 rfl (lv_room (Nat.le_of_ble_eq_true rfl)) dX2_share_8 ⟨Nat.le_of_ble_eq_true rfl, Nat.le_of_ble_eq_true rfl⟩) hS (fun q _ h => (ro_free hS hA) q h) (ro_free hS hA) (fun r_3 u t H1 locs ht hvm hw hB hz1 hk1 hS => ?_)
    have hP := ro_keep hP hk1
    generalize H1 = H at hP hS ⊢
    rcases hw with ⟨rfl, hp_4⟩ | ⟨rfl, hp_4⟩
    · refine lv_if_ne (tgt := 16) hx hb dX2_share_11 (by decide) (fun _ => ?_) (fun c9 => absurd c9 (by decide))
      refine lv_aload_n hx hb dX2_share_16 rfl (lv_at hl 0 rfl) ?_
      obtain ⟨q1_5, pc_5, c1_5, c2_5, c3_5, q5_5, fc_5, q7_5, mc_5, e_5, fq1_5, fc1_5, fc2_5, fc3_5, fq5_5, ffc_5, fq7_5, fmc_5⟩ := hPI.a2 hh0
      obtain ⟨k_5, hk_5⟩ := va_plg hh0.1 e_5
      refine va_get (D := (dC, dI)) (ci := 2) (v := .ref q1_5) (C := RX2) (T := TX2) (N := 9) hx hb hts iX2_ hown hK hP k_5 hk_5 rfl 0 (by decide) (hts (.fieldLink RX2 11 "FieldLeaves" "slots" "[LFieldLeaves$Thing;") (by decide +kernel)) (fun _ h9 => h9) rfl dX2_share_17 ?_
      refine lv_iload_n hx hb dX2_share_20 rfl (lv_at hl 2 rfl) ?_
      refine lv_aload_n hx hb dX2_share_21 rfl (lv_at hl 0 rfl) ?_
      obtain ⟨k_6, hk_6⟩ := va_plg hh0.1 e_5
      refine va_get (D := (dC, dI)) (ci := 2) (v := .ref q1_5) (C := RX2) (T := TX2) (N := 9) hx hb hts iX2_ hown hK hP k_6 hk_6 rfl 0 (by decide) (hts (.fieldLink RX2 11 "FieldLeaves" "slots" "[LFieldLeaves$Thing;") (by decide +kernel)) (fun _ h9 => h9) rfl dX2_share_22 ?_
      refine lv_iload_n hx hb dX2_share_25 rfl (lv_at hl 1 rfl) ?_
      obtain ⟨g_7, e_7, fg_7⟩ := hPI.a5 fq1_5
      obtain ⟨k_7, hk_7⟩ := va_plg fq1_5.1 e_7
      have h_7 : vp_in p0 12 := (vp_in_iff.mpr (by constructor <;> omega))
      refine va_aldq hx hb hK hP k_7 0 hk_7 rfl h_7 dX2_share_26 ?_
      have fo_7 := fg_7 _ (vp_lt h_7)
      generalize eo_7 : g_7 (Int32.toNatClampNeg p0) = o_7 at fo_7 ⊢
      rcases o_7 with _ | y_8
      · refine W.eq (g2 := F0 m 27 ls [.null, .int p1, .ref q1_5]) rfl ?_
        obtain ⟨k_9, hk_9⟩ := va_plg fq1_5.1 e_7
        have h_9 : vp_in p1 12 := (vp_in_iff.mpr (by constructor <;> omega))
        have hD9 := hD
        refine va_astqN hx hb hK hP hD hS k_9 0 hk_9 rfl h_9 dX2_share_27 (fun H locs hP hD hS => ?_)
        have fg2_9 := upr_all (k := Int32.toNatClampNeg p1) (o := none) fg_7 (fun _ h9 => by cases h9)
        have hP : va_P (dC, dI) vwCl (va_pl L (va_up f q1_5 (.inl (kT, 12, .inr (.inr (.inr (.inr (va_up g_7 (Int32.toNatClampNeg p1) none)))))))) H := by rw [← va_pls hD9 fq1_5.1 hk_9 _]; exact hP
        have hD : va_D A (va_pl L (va_up f q1_5 (.inl (kT, 12, .inr (.inr (.inr (.inr (va_up g_7 (Int32.toNatClampNeg p1) none)))))))) := by rw [← va_pls hD9 fq1_5.1 hk_9 _]; exact hD
        have hPI := hPI.put (e := .inl (kT, 12, .inr (.inr (.inr (.inr (va_up g_7 (Int32.toNatClampNeg p1) none)))))) fq1_5 ⟨_, rfl, fg2_9⟩
        have es_f_10 : va_up f q1_5 (.inl (kT, 12, .inr (.inr (.inr (.inr (va_up g_7 (Int32.toNatClampNeg p1) none)))))) q1_5 = .inl (kT, 12, .inr (.inr (.inr (.inr (va_up g_7 (Int32.toNatClampNeg p1) none))))) := va_up_self _ _ _
        have eq_11 := (va_up_ne f (.inl (kT, 12, .inr (.inr (.inr (.inr (va_up g_7 (Int32.toNatClampNeg p1) none)))))) (isr_ne hh0 fq1_5 (by decide))).trans e_5
        generalize va_up f q1_5 (.inl (kT, 12, .inr (.inr (.inr (.inr (va_up g_7 (Int32.toNatClampNeg p1) none)))))) = f_10 at hP hD hPI es_f_10 eq_11
        refine lv_iconst (v := 1) hx hb dX2_share_28 (by decide) ?_
        exact W.iret (v := 1) hx hb hr (fun t ht hW => ⟨⟨1, (), rfl, (show 1 = sp_share p0 p1 from by unfold sp_share; (repeat' split) <;> first | rfl | (exfalso; omega)), f_10, hPI, by rw [ht]; exact hP, hD⟩, hS.F ht⟩) hS.2.2 dX2_share_29
      · have fy_8 := fo_7 y_8 rfl
        refine W.eq (g2 := F0 m 27 ls [.ref y_8, .int p1, .ref q1_5]) rfl ?_
        obtain ⟨k_12, hk_12⟩ := va_plg fq1_5.1 e_7
        have h_12 : vp_in p1 12 := (vp_in_iff.mpr (by constructor <;> omega))
        obtain ⟨cn_13, v_13, b_13, m_13, st_13, i_13, e_13, fv_13, fb_13, fm_13, fst_13, fi_13⟩ := hPI.a1 fy_8
        obtain ⟨k_13, hk_13⟩ := va_plg fy_8.1 e_13
        have hD9 := hD
        refine va_astq hx hb hK hP hD hS k_12 0 k_13 1 hk_12 rfl hk_13 rfl h_12 dX2_share_27 (fun H locs hP hD hS => ?_)
        have fg2_12 := upr_all (k := Int32.toNatClampNeg p1) (o := (some y_8)) fg_7 (fun _ h9 => by cases h9; exact fy_8)
        have hP : va_P (dC, dI) vwCl (va_pl L (va_up f q1_5 (.inl (kT, 12, .inr (.inr (.inr (.inr (va_up g_7 (Int32.toNatClampNeg p1) (some y_8))))))))) H := by rw [← va_pls hD9 fq1_5.1 hk_12 _]; exact hP
        have hD : va_D A (va_pl L (va_up f q1_5 (.inl (kT, 12, .inr (.inr (.inr (.inr (va_up g_7 (Int32.toNatClampNeg p1) (some y_8))))))))) := by rw [← va_pls hD9 fq1_5.1 hk_12 _]; exact hD
        have hPI := hPI.put (e := .inl (kT, 12, .inr (.inr (.inr (.inr (va_up g_7 (Int32.toNatClampNeg p1) (some y_8))))))) fq1_5 ⟨_, rfl, fg2_12⟩
        have es_f_14 : va_up f q1_5 (.inl (kT, 12, .inr (.inr (.inr (.inr (va_up g_7 (Int32.toNatClampNeg p1) (some y_8))))))) q1_5 = .inl (kT, 12, .inr (.inr (.inr (.inr (va_up g_7 (Int32.toNatClampNeg p1) (some y_8)))))) := va_up_self _ _ _
        have eq_15 := (va_up_ne f (.inl (kT, 12, .inr (.inr (.inr (.inr (va_up g_7 (Int32.toNatClampNeg p1) (some y_8))))))) (isr_ne hh0 fq1_5 (by decide))).trans e_5
        have eq_16 := (va_up_ne f (.inl (kT, 12, .inr (.inr (.inr (.inr (va_up g_7 (Int32.toNatClampNeg p1) (some y_8))))))) (isr_ne fy_8 fq1_5 (by decide))).trans e_13
        generalize va_up f q1_5 (.inl (kT, 12, .inr (.inr (.inr (.inr (va_up g_7 (Int32.toNatClampNeg p1) (some y_8))))))) = f_14 at hP hD hPI es_f_14 eq_15 eq_16
        refine lv_iconst (v := 1) hx hb dX2_share_28 (by decide) ?_
        exact W.iret (v := 1) hx hb hr (fun t ht hW => ⟨⟨1, (), rfl, (show 1 = sp_share p0 p1 from by unfold sp_share; (repeat' split) <;> first | rfl | (exfalso; omega)), f_14, hPI, by rw [ht]; exact hP, hD⟩, hS.F ht⟩) hS.2.2 dX2_share_29
    · refine lv_if_ne (tgt := 16) hx hb dX2_share_11 (by decide) (fun c9 => absurd c9 (by decide)) (fun _ => ?_)
      refine lv_iconst (v := (-1)) hx hb dX2_share_14 (by decide) ?_
      exact W.iret (v := (-1)) hx hb hr (fun t ht hW => ⟨⟨(-1), (), rfl, (show (-1) = sp_share p0 p1 from by unfold sp_share; (repeat' split) <;> first | rfl | (exfalso; omega)), f, hPI, by rw [ht]; exact hP, hD⟩, hS.F ht⟩) hS.2.2 dX2_share_15
  · refine lv_if_eq (tgt := 14) hx hb dX2_share_4 (by decide) (fun _ => ?_) (fun c9 => absurd c9 (by decide))
    refine lv_iconst (v := (-1)) hx hb dX2_share_14 (by decide) ?_
    exact W.iret (v := (-1)) hx hb hr (fun t ht hW => ⟨⟨(-1), (), rfl, (show (-1) = sp_share p0 p1 from by unfold sp_share; (repeat' split) <;> first | rfl | (exfalso; omega)), f, hPI, by rw [ht]; exact hP, hD⟩, hS.F ht⟩) hS.2.2 dX2_share_15
