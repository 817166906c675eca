set_option maxRecDepth 20000 in
theorem in_c_X2_count_X2 : ∀ w ∈ u_ws RX2 TX2 9, w ∈ wsX2_count := by decide +kernel
set_option maxRecDepth 100000 in
set_option maxHeartbeats 4000000 in
theorem c_X2_count (l : Launch) (dC : Nat → ClassId) (dI : Nat → Nat → Nat) (TT : Nat × Nat × Nat) (sz : Nat) (h0 h1 h2 h3 h4 h5 h6 a1 a2 a3 : Nat) (kT : ClassId) (p0 : Int32) (p1 : Int32) : Met l yX2_count wsX2_count ({ frames := 1, cells := 0, slots := 0, locals := 21 } : Room) (va_Pc [.ref h0, .int p0, .int p1] (pr dC dI [(h0, .inr (2, [.ref h1, .int 0, .ref h2, .ref h3, .ref h4, .ref h5, .int 0, .ref h6, .int 0])), (h1, .inl (kT, 12, .inr (.inr (.inr (.inr (fun _ => none)))))), (h2, .inr (0, [.ref a1, .ref a2, .ref a3, .int 0]))] [(h0, .inr (2, [.ref h1, .int 0, .ref h2, .ref h3, .ref h4, .ref h5, .int 0, .ref h6, .int 0])), (h1, .inl (kT, 12, .inr (.inr (.inr (.inr (fun _ => none)))))), (h2, .inr (0, [.ref a1, .ref a2, .ref a3, .int 0]))] [(kT, .object RX1)] sz TT)) (va_Ql (fun (r : Int64) (u : Unit) => r = sp_count p0 p1) (fun _ _ => True) (va_A [(h0, .inr (2, [.ref h1, .int 0, .ref h2, .ref h3, .ref h4, .ref h5, .int 0, .ref h6, .int 0])), (h1, .inl (kT, 12, .inr (.inr (.inr (.inr (fun _ => none)))))), (h2, .inr (0, [.ref a1, .ref a2, .ref a3, .int 0]))] sz)) 0 0 (va_A [(h0, .inr (2, [.ref h1, .int 0, .ref h2, .ref h3, .ref h4, .ref h5, .int 0, .ref h6, .int 0])), (h1, .inl (kT, 12, .inr (.inr (.inr (.inr (fun _ => none)))))), (h2, .inr (0, [.ref a1, .ref a2, .ref a3, .int 0]))] sz) := by
  refine Met.ofW (cc := cX2_count) (maxL := 5) (ret := (some .long)) (by decide) rfl ?_
  intro p e s m args below meth c s₁ B hml hv
  obtain ⟨rfl, hsz, hP, hK, hD0, hst⟩ := hv
  have hx := B.exec
  have hb := B.bytes
  have hr := B.returns
  have hts := atoms_spec (ws := wsX2_count) B.pre
  have hown : s.vm.findClass RX2 = some m.cls := findClass_of_methodNamed B.named
  have hlocks := B.notSynchronized
  have iX2_ := in_c_X2_count_X2
  subst hsz
  have hD := hD0.self (sz := s.heap.size)
  generalize hAe : va_A [(h0, .inr (2, [.ref h1, .int 0, .ref h2, .ref h3, .ref h4, .ref h5, .int 0, .ref h6, .int 0])), (h1, .inl (kT, 12, .inr (.inr (.inr (.inr (fun _ => none)))))), (h2, .inr (0, [.ref a1, .ref a2, .ref a3, .int 0]))] s.heap.size = A at hD hst ⊢
  have hA : ∀ q : Nat, s.heap.size ≤ q → A q := fun q h => by rw [← hAe]; exact Or.inr h
  have hS : va_S A s.heap s.heap [] := va_S.rf
  have hl := lv_entry ([.ref h0, .int p0, .int p1]) (n := 5) (Nat.le_of_ble_eq_true rfl)
  rw [lg_entry_eq]
  generalize (lg_sl ([.ref h0, .int p0, .int p1]) ++ List.replicate (5 - (lg_sl ([.ref h0, .int p0, .int p1])).length) Slot.unset).toArray = ls at hl ⊢
  have hl : lv_has ls 5 [(0, .ref h0), (1, .int p0), (2, .int p1)] := hl
  have k0_ : Int32.toInt 0 = 0 := by decide
  have k2_ : Int32.toInt 2 = 2 := by decide
  have klm11_ : Int64.toInt (-11) = -11 := by decide
  have klm1_ : Int64.toInt (-1) = -1 := by decide
  refine lv_iload_n hx hb dX2_count_0 rfl (lv_at hl 1 rfl) ?_
  refine va_calli (va_runS (As := [.int p0]) (rest := []) ⟨hx, hb, hml, hown, hts⟩ (c_X2_isSlot l dC dI TT s.heap.size p0) (va_cwS 1 hts gX2_count_X2_isSlot rfl rfl rfl (by decide +kernel) ⟨Nat.le_of_ble_eq_true rfl, Nat.le_of_ble_eq_true rfl⟩) (pr_S (ws := []) (wA := []) (tys := []) (hP.sub [] rfl) (hK.sub [] rfl) vd_nil hst hS (ro_free hS hA)) rfl rfl hl.1 rfl (lv_room (Nat.le_of_ble_eq_true rfl)) dX2_count_1 ⟨Nat.le_of_ble_eq_true rfl, Nat.le_of_ble_eq_true rfl⟩) hS (fun q _ h => (ro_free hS hA) q h) (ro_free hS hA) (fun r_1 u t H1 locs ht hvm hw hB hz1 hk1 hS => ?_)
  have hP := ro_keep hP hk1
  generalize H1 = H at hP hS ⊢
  rcases hw with ⟨rfl, hp_2⟩ | ⟨rfl, hp_2⟩
  · refine lv_if_eq (tgt := 16) hx hb dX2_count_4 (by decide) (fun c9 => absurd c9 (by decide)) (fun _ => ?_)
    refine lv_iload_n hx hb dX2_count_7 rfl (lv_at hl 2 rfl) ?_
    refine lv_if_lt (tgt := 16) hx hb dX2_count_8 (by decide) (fun c_3 => ?_) (fun c_3 => ?_)
    · have c_3 := Int32.lt_iff_toInt_lt.mp c_3
      refine lv_ldc2 hx hb hown (hts (.constantLong RX2 55 (-1)) (by decide +kernel)) dX2_count_16 ?_
      exact W.lret (v := (-1)) hx hb hr (fun t ht hW => ⟨⟨(-1), (), rfl, (show (-1) = sp_count p0 p1 from by unfold sp_count; (repeat' split) <;> first | rfl | (exfalso; omega)), trivial⟩, hS.F ht⟩) hS.2.2 dX2_count_19
    · have c_3 := mt Int32.lt_iff_toInt_lt.mpr c_3
      refine lv_iload_n hx hb dX2_count_11 rfl (lv_at hl 2 rfl) ?_
      refine lv_iconst (v := 2) hx hb dX2_count_12 (by decide) ?_
      refine lv_icmp_le (tgt := 20) hx hb dX2_count_13 (by decide) (fun c_4 => ?_) (fun c_4 => ?_)
      · have c_4 := Int32.le_iff_toInt_le.mp c_4
        refine lv_aload_n hx hb dX2_count_20 rfl (lv_at hl 0 rfl) ?_
        refine va_get (D := (dC, dI)) (ci := 2) (v := .ref h1) (C := RX2) (T := TX2) (N := 9) hx hb hts iX2_ hown hK hP 0 rfl rfl 0 (by decide) (hts (.fieldLink RX2 11 "FieldLeaves" "slots" "[LFieldLeaves$Thing;") (by decide +kernel)) (fun _ h9 => h9) rfl dX2_count_21 ?_
        refine lv_iload_n hx hb dX2_count_24 rfl (lv_at hl 1 rfl) ?_
        have h_5 : vp_in p0 12 := (vp_in_iff.mpr (by constructor <;> omega))
        refine va_aldq hx hb hK hP 1 0 rfl rfl h_5 dX2_count_25 ?_
        refine W.eq (g2 := F0 m 26 ls [.null]) rfl ?_
        refine lv_astore_nN (lv' := [(3, .null), (0, .ref h0), (1, .int p0), (2, .int p1)]) hx hb dX2_count_26 rfl hl (by decide) rfl (fun ls hl => ?_)
        refine lv_aload_nN hx hb dX2_count_27 rfl (lv_at hl 0 rfl) ?_
        refine lv_iload_n hx hb dX2_count_28 rfl (lv_at hl 3 rfl) ?_
        refine va_calli (va_runS (As := [.null, .int p1]) (rest := []) ⟨hx, hb, hml, hown, hts⟩ (c_X2_failureAs_null l dC dI TT H.size p1) (va_cwS 2 hts gX2_count_X2_failureAs rfl rfl rfl (by decide +kernel) ⟨Nat.le_of_ble_eq_true rfl, Nat.le_of_ble_eq_true rfl⟩) (pr_S (ws := []) (wA := []) (tys := []) (hP.sub [] rfl) (hK.sub [] rfl) vd_nil hst hS (ro_free hS hA)) rfl rfl hl.1 rfl (lv_room (Nat.le_of_ble_eq_true rfl)) dX2_count_29 ⟨Nat.le_of_ble_eq_true rfl, Nat.le_of_ble_eq_true rfl⟩) hS (fun q _ h => (ro_free hS hA) q h) (ro_free hS hA) (fun r_6 u t H1 locs ht hvm hw hB hz1 hk1 hS => ?_)
        have hP := ro_keep hP hk1
        generalize H1 = H at hP hS ⊢
        subst hw
        refine lv_istore (lv' := [(4, .int (-11)), (3, .null), (0, .ref h0), (1, .int p0), (2, .int p1)]) hx hb dX2_count_32 hl (by decide) rfl (fun ls hl => ?_)
        refine lv_iload hx hb dX2_count_34 (lv_at hl 0 rfl) ?_
        refine lv_if_eq (tgt := 45) hx hb dX2_count_36 (by decide) (fun c9 => absurd c9 (by decide)) (fun _ => ?_)
        refine lv_iload hx hb dX2_count_39 (lv_at hl 0 rfl) ?_
        refine lv_i2l (v := (-11)) hx hb dX2_count_41 (by decide) ?_
        refine lv_goto (tgt := 55) hx hb dX2_count_42 (by decide) ?_
        exact W.lret (v := (-11)) hx hb hr (fun t ht hW => ⟨⟨(-11), (), rfl, (show (-11) = sp_count p0 p1 from by unfold sp_count; (repeat' split) <;> first | rfl | (exfalso; omega)), trivial⟩, hS.F ht⟩) hS.2.2 dX2_count_55
      · have c_4 := mt Int32.le_iff_toInt_le.mpr c_4
        refine lv_ldc2 hx hb hown (hts (.constantLong RX2 55 (-1)) (by decide +kernel)) dX2_count_16 ?_
        exact W.lret (v := (-1)) hx hb hr (fun t ht hW => ⟨⟨(-1), (), rfl, (show (-1) = sp_count p0 p1 from by unfold sp_count; (repeat' split) <;> first | rfl | (exfalso; omega)), trivial⟩, hS.F ht⟩) hS.2.2 dX2_count_19
  · refine lv_if_eq (tgt := 16) hx hb dX2_count_4 (by decide) (fun _ => ?_) (fun c9 => absurd c9 (by decide))
    refine lv_ldc2 hx hb hown (hts (.constantLong RX2 55 (-1)) (by decide +kernel)) dX2_count_16 ?_
    exact W.lret (v := (-1)) hx hb hr (fun t ht hW => ⟨⟨(-1), (), rfl, (show (-1) = sp_count p0 p1 from by unfold sp_count; (repeat' split) <;> first | rfl | (exfalso; omega)), trivial⟩, hS.F ht⟩) hS.2.2 dX2_count_19
set_option maxRecDepth 20000 in
theorem in_c_X2_call_X2 : ∀ w ∈ u_ws RX2 TX2 9, w ∈ wsX2_call := by decide +kernel
set_option maxRecDepth 100000 in
set_option maxHeartbeats 4000000 in
theorem c_X2_call (l : Launch) (dC : Nat → ClassId) (dI : Nat → Nat → Nat) (TT : Nat × Nat × Nat) (sz : Nat) (h0 h1 h2 h3 h4 h5 h6 a1 a2 a3 : Nat) (kT : ClassId) (p0 : Int32) (p1 : Int32) : Met l yX2_call wsX2_call ({ frames := 1, cells := 0, slots := 0, locals := 21 } : Room) (va_Pc [.ref h0, .int p0, .int p1] (pr dC dI [(h0, .inr (2, [.ref h1, .int 0, .ref h2, .ref h3, .ref h4, .ref h5, .int 0, .ref h6, .int 0])), (h1, .inl (kT, 12, .inr (.inr (.inr (.inr (fun _ => none)))))), (h2, .inr (0, [.ref a1, .ref a2, .ref a3, .int 0]))] [(h0, .inr (2, [.ref h1, .int 0, .ref h2, .ref h3, .ref h4, .ref h5, .int 0, .ref h6, .int 0])), (h1, .inl (kT, 12, .inr (.inr (.inr (.inr (fun _ => none)))))), (h2, .inr (0, [.ref a1, .ref a2, .ref a3, .int 0]))] [(kT, .object RX1)] sz TT)) (va_Qi (fun (r : Int32) (u : Unit) => r = sp_call p0 p1) (fun _ _ => True) (va_A [(h0, .inr (2, [.ref h1, .int 0, .ref h2, .ref h3, .ref h4, .ref h5, .int 0, .ref h6, .int 0])), (h1, .inl (kT, 12, .inr (.inr (.inr (.inr (fun _ => none)))))), (h2, .inr (0, [.ref a1, .ref a2, .ref a3, .int 0]))] sz)) 0 0 (va_A [(h0, .inr (2, [.ref h1, .int 0, .ref h2, .ref h3, .ref h4, .ref h5, .int 0, .ref h6, .int 0])), (h1, .inl (kT, 12, .inr (.inr (.inr (.inr (fun _ => none)))))), (h2, .inr (0, [.ref a1, .ref a2, .ref a3, .int 0]))] sz) := by
  refine Met.ofW (cc := cX2_call) (maxL := 5) (ret := (some .int)) (by decide) rfl ?_
  intro p e s m args below meth c s₁ B hml hv
  obtain ⟨rfl, hsz, hP, hK, hD0, hst⟩ := hv
  have hx := B.exec
  have hb := B.bytes
  have hr := B.returns
  have hts := atoms_spec (ws := wsX2_call) B.pre
  have hown : s.vm.findClass RX2 = some m.cls := findClass_of_methodNamed B.named
  have hlocks := B.notSynchronized
  have iX2_ := in_c_X2_call_X2
  subst hsz
  have hD := hD0.self (sz := s.heap.size)
  generalize hAe : va_A [(h0, .inr (2, [.ref h1, .int 0, .ref h2, .ref h3, .ref h4, .ref h5, .int 0, .ref h6, .int 0])), (h1, .inl (kT, 12, .inr (.inr (.inr (.inr (fun _ => none)))))), (h2, .inr (0, [.ref a1, .ref a2, .ref a3, .int 0]))] s.heap.size = A at hD hst ⊢
  have hA : ∀ q : Nat, s.heap.size ≤ q → A q := fun q h => by rw [← hAe]; exact Or.inr h
  have hS : va_S A s.heap s.heap [] := va_S.rf
  have hl := lv_entry ([.ref h0, .int p0, .int p1]) (n := 5) (Nat.le_of_ble_eq_true rfl)
  rw [lg_entry_eq]
  generalize (lg_sl ([.ref h0, .int p0, .int p1]) ++ List.replicate (5 - (lg_sl ([.ref h0, .int p0, .int p1])).length) Slot.unset).toArray = ls at hl ⊢
  have hl : lv_has ls 5 [(0, .ref h0), (1, .int p0), (2, .int p1)] := hl
  have km11_ : Int32.toInt (-11) = -11 := by decide
  have km1_ : Int32.toInt (-1) = -1 := by decide
  have k0_ : Int32.toInt 0 = 0 := by decide
  have k2_ : Int32.toInt 2 = 2 := by decide
  have k3_ : Int32.toInt 3 = 3 := by decide
  have k4_ : Int32.toInt 4 = 4 := by decide
  refine lv_iload_n hx hb dX2_call_0 rfl (lv_at hl 1 rfl) ?_
  refine va_calli (va_runS (As := [.int p0]) (rest := []) ⟨hx, hb, hml, hown, hts⟩ (c_X2_isSlot l dC dI TT s.heap.size p0) (va_cwS 1 hts gX2_call_X2_isSlot rfl rfl rfl (by decide +kernel) ⟨Nat.le_of_ble_eq_true rfl, Nat.le_of_ble_eq_true rfl⟩) (pr_S (ws := []) (wA := []) (tys := []) (hP.sub [] rfl) (hK.sub [] rfl) vd_nil hst hS (ro_free hS hA)) rfl rfl hl.1 rfl (lv_room (Nat.le_of_ble_eq_true rfl)) dX2_call_1 ⟨Nat.le_of_ble_eq_true rfl, Nat.le_of_ble_eq_true rfl⟩) hS (fun q _ h => (ro_free hS hA) q h) (ro_free hS hA) (fun r_1 u t H1 locs ht hvm hw hB hz1 hk1 hS => ?_)
  have hP := ro_keep hP hk1
  generalize H1 = H at hP hS ⊢
  rcases hw with ⟨rfl, hp_2⟩ | ⟨rfl, hp_2⟩
  · refine lv_if_eq (tgt := 16) hx hb dX2_call_4 (by decide) (fun c9 => absurd c9 (by decide)) (fun _ => ?_)
    refine lv_iload_n hx hb dX2_call_7 rfl (lv_at hl 2 rfl) ?_
    refine lv_if_lt (tgt := 16) hx hb dX2_call_8 (by decide) (fun c_3 => ?_) (fun c_3 => ?_)
    · have c_3 := Int32.lt_iff_toInt_lt.mp c_3
      refine lv_iconst (v := (-1)) hx hb dX2_call_16 (by decide) ?_
      exact W.iret (v := (-1)) hx hb hr (fun t ht hW => ⟨⟨(-1), (), rfl, (show (-1) = sp_call p0 p1 from by unfold sp_call; (repeat' split) <;> first | rfl | (exfalso; omega)), trivial⟩, hS.F ht⟩) hS.2.2 dX2_call_17
    · have c_3 := mt Int32.lt_iff_toInt_lt.mpr c_3
      refine lv_iload_n hx hb dX2_call_11 rfl (lv_at hl 2 rfl) ?_
      refine lv_iconst (v := 4) hx hb dX2_call_12 (by decide) ?_
      refine lv_icmp_le (tgt := 18) hx hb dX2_call_13 (by decide) (fun c_4 => ?_) (fun c_4 => ?_)
      · have c_4 := Int32.le_iff_toInt_le.mp c_4
        refine lv_aload_n hx hb dX2_call_18 rfl (lv_at hl 0 rfl) ?_
        refine va_get (D := (dC, dI)) (ci := 2) (v := .ref h1) (C := RX2) (T := TX2) (N := 9) hx hb hts iX2_ hown hK hP 0 rfl rfl 0 (by decide) (hts (.fieldLink RX2 11 "FieldLeaves" "slots" "[LFieldLeaves$Thing;") (by decide +kernel)) (fun _ h9 => h9) rfl dX2_call_19 ?_
        refine lv_iload_n hx hb dX2_call_22 rfl (lv_at hl 1 rfl) ?_
        have h_5 : vp_in p0 12 := (vp_in_iff.mpr (by constructor <;> omega))
        refine va_aldq hx hb hK hP 1 0 rfl rfl h_5 dX2_call_23 ?_
        refine W.eq (g2 := F0 m 24 ls [.null]) rfl ?_
        refine lv_astore_nN (lv' := [(3, .null), (0, .ref h0), (1, .int p0), (2, .int p1)]) hx hb dX2_call_24 rfl hl (by decide) rfl (fun ls hl => ?_)
        refine lv_aload_nN hx hb dX2_call_25 rfl (lv_at hl 0 rfl) ?_
        refine lv_iload_n hx hb dX2_call_26 rfl (lv_at hl 3 rfl) ?_
        refine lv_iconst (v := 2) hx hb dX2_call_27 (by decide) ?_
        refine lv_icmp_eq (tgt := 36) hx hb dX2_call_28 (by decide) (fun c_6 => ?_) (fun c_6 => ?_)
        · have c_6 := congrArg Int32.toInt c_6
          refine lv_iconst (v := 5) hx hb dX2_call_36 (by decide) ?_
          refine lv_goto (tgt := 41) hx hb dX2_call_37 (by decide) ?_
          refine va_calli (va_runS (As := [.null, .int 5]) (rest := []) ⟨hx, hb, hml, hown, hts⟩ (c_X2_failureAs_null l dC dI TT H.size 5) (va_cwS 2 hts gX2_call_X2_failureAs rfl rfl rfl (by decide +kernel) ⟨Nat.le_of_ble_eq_true rfl, Nat.le_of_ble_eq_true rfl⟩) (pr_S (ws := []) (wA := []) (tys := []) (hP.sub [] rfl) (hK.sub [] rfl) vd_nil hst hS (ro_free hS hA)) rfl rfl hl.1 rfl (lv_room (Nat.le_of_ble_eq_true rfl)) dX2_call_41 ⟨Nat.le_of_ble_eq_true rfl, Nat.le_of_ble_eq_true rfl⟩) hS (fun q _ h => (ro_free hS hA) q h) (ro_free hS hA) (fun r_7 u t H1 locs ht hvm hw hB hz1 hk1 hS => ?_)
          have hP := ro_keep hP hk1
          generalize H1 = H at hP hS ⊢
          subst hw
          refine lv_istore (lv' := [(4, .int (-11)), (3, .null), (0, .ref h0), (1, .int p0), (2, .int p1)]) hx hb dX2_call_44 hl (by decide) rfl (fun ls hl => ?_)
          refine lv_iload hx hb dX2_call_46 (lv_at hl 0 rfl) ?_
          refine lv_if_eq (tgt := 54) hx hb dX2_call_48 (by decide) (fun c9 => absurd c9 (by decide)) (fun _ => ?_)
          refine lv_iload hx hb dX2_call_51 (lv_at hl 0 rfl) ?_
          exact W.iret (v := (-11)) hx hb hr (fun t ht hW => ⟨⟨(-11), (), rfl, (show (-11) = sp_call p0 p1 from by unfold sp_call; (repeat' split) <;> first | rfl | (exfalso; omega)), trivial⟩, hS.F ht⟩) hS.2.2 dX2_call_53
        · have c_6 := mt Int32.toInt_inj.mp c_6
          refine lv_iload_n hx hb dX2_call_31 rfl (lv_at hl 3 rfl) ?_
          refine lv_iconst (v := 3) hx hb dX2_call_32 (by decide) ?_
          refine lv_icmp_ne (tgt := 40) hx hb dX2_call_33 (by decide) (fun c_8 => ?_) (fun c_8 => ?_)
          · have c_8 := mt Int32.toInt_inj.mp c_8
            refine lv_iconst (v := 0) hx hb dX2_call_40 (by decide) ?_
            refine va_calli (va_runS (As := [.null, .int 0]) (rest := []) ⟨hx, hb, hml, hown, hts⟩ (c_X2_failureAs_null l dC dI TT H.size 0) (va_cwS 2 hts gX2_call_X2_failureAs rfl rfl rfl (by decide +kernel) ⟨Nat.le_of_ble_eq_true rfl, Nat.le_of_ble_eq_true rfl⟩) (pr_S (ws := []) (wA := []) (tys := []) (hP.sub [] rfl) (hK.sub [] rfl) vd_nil hst hS (ro_free hS hA)) rfl rfl hl.1 rfl (lv_room (Nat.le_of_ble_eq_true rfl)) dX2_call_41 ⟨Nat.le_of_ble_eq_true rfl, Nat.le_of_ble_eq_true rfl⟩) hS (fun q _ h => (ro_free hS hA) q h) (ro_free hS hA) (fun r_9 u t H1 locs ht hvm hw hB hz1 hk1 hS => ?_)
            have hP := ro_keep hP hk1
            generalize H1 = H at hP hS ⊢
            subst hw
            refine lv_istore (lv' := [(4, .int (-11)), (3, .null), (0, .ref h0), (1, .int p0), (2, .int p1)]) hx hb dX2_call_44 hl (by decide) rfl (fun ls hl => ?_)
            refine lv_iload hx hb dX2_call_46 (lv_at hl 0 rfl) ?_
            refine lv_if_eq (tgt := 54) hx hb dX2_call_48 (by decide) (fun c9 => absurd c9 (by decide)) (fun _ => ?_)
            refine lv_iload hx hb dX2_call_51 (lv_at hl 0 rfl) ?_
            exact W.iret (v := (-11)) hx hb hr (fun t ht hW => ⟨⟨(-11), (), rfl, (show (-11) = sp_call p0 p1 from by unfold sp_call; (repeat' split) <;> first | rfl | (exfalso; omega)), trivial⟩, hS.F ht⟩) hS.2.2 dX2_call_53
          · have c_8 := congrArg Int32.toInt c_8
            refine lv_iconst (v := 5) hx hb dX2_call_36 (by decide) ?_
            refine lv_goto (tgt := 41) hx hb dX2_call_37 (by decide) ?_
            refine va_calli (va_runS (As := [.null, .int 5]) (rest := []) ⟨hx, hb, hml, hown, hts⟩ (c_X2_failureAs_null l dC dI TT H.size 5) (va_cwS 2 hts gX2_call_X2_failureAs rfl rfl rfl (by decide +kernel) ⟨Nat.le_of_ble_eq_true rfl, Nat.le_of_ble_eq_true rfl⟩) (pr_S (ws := []) (wA := []) (tys := []) (hP.sub [] rfl) (hK.sub [] rfl) vd_nil hst hS (ro_free hS hA)) rfl rfl hl.1 rfl (lv_room (Nat.le_of_ble_eq_true rfl)) dX2_call_41 ⟨Nat.le_of_ble_eq_true rfl, Nat.le_of_ble_eq_true rfl⟩) hS (fun q _ h => (ro_free hS hA) q h) (ro_free hS hA) (fun r_10 u t H1 locs ht hvm hw hB hz1 hk1 hS => ?_)
            have hP := ro_keep hP hk1
            generalize H1 = H at hP hS ⊢
            subst hw
            refine lv_istore (lv' := [(4, .int (-11)), (3, .null), (0, .ref h0), (1, .int p0), (2, .int p1)]) hx hb dX2_call_44 hl (by decide) rfl (fun ls hl => ?_)
            refine lv_iload hx hb dX2_call_46 (lv_at hl 0 rfl) ?_
            refine lv_if_eq (tgt := 54) hx hb dX2_call_48 (by decide) (fun c9 => absurd c9 (by decide)) (fun _ => ?_)
            refine lv_iload hx hb dX2_call_51 (lv_at hl 0 rfl) ?_
            exact W.iret (v := (-11)) hx hb hr (fun t ht hW => ⟨⟨(-11), (), rfl, (show (-11) = sp_call p0 p1 from by unfold sp_call; (repeat' split) <;> first | rfl | (exfalso; omega)), trivial⟩, hS.F ht⟩) hS.2.2 dX2_call_53
      · have c_4 := mt Int32.le_iff_toInt_le.mpr c_4
        refine lv_iconst (v := (-1)) hx hb dX2_call_16 (by decide) ?_
        exact W.iret (v := (-1)) hx hb hr (fun t ht hW => ⟨⟨(-1), (), rfl, (show (-1) = sp_call p0 p1 from by unfold sp_call; (repeat' split) <;> first | rfl | (exfalso; omega)), trivial⟩, hS.F ht⟩) hS.2.2 dX2_call_17
  · refine lv_if_eq (tgt := 16) hx hb dX2_call_4 (by decide) (fun _ => ?_) (fun c9 => absurd c9 (by decide))
    refine lv_iconst (v := (-1)) hx hb dX2_call_16 (by decide) ?_
    exact W.iret (v := (-1)) hx hb hr (fun t ht hW => ⟨⟨(-1), (), rfl, (show (-1) = sp_call p0 p1 from by unfold sp_call; (repeat' split) <;> first | rfl | (exfalso; omega)), trivial⟩, hS.F ht⟩) hS.2.2 dX2_call_17
set_option maxRecDepth 20000 in
theorem in_c_X2_raise_X2 : ∀ w ∈ u_ws RX2 TX2 9, w ∈ wsX2_raise := by decide +kernel
set_option maxRecDepth 100000 in
set_option maxHeartbeats 4000000 in
theorem c_X2_raise (l : Launch) (dC : Nat → ClassId) (dI : Nat → Nat → Nat) (TT : Nat × Nat × Nat) (sz : Nat) (h0 h1 h2 h3 h4 h5 h6 a1 a2 a3 : Nat) (kT : ClassId) (p0 : Int32) : Met l yX2_raise wsX2_raise ({ frames := 2, cells := 0, slots := 0, locals := 42 } : Room) (va_Pc [.ref h0, .int p0] (pr dC dI [(h0, .inr (2, [.ref h1, .int 0, .ref h2, .ref h3, .ref h4, .ref h5, .int 0, .ref h6, .int 0])), (h1, .inl (kT, 12, .inr (.inr (.inr (.inr (fun _ => none)))))), (h2, .inr (0, [.ref a1, .ref a2, .ref a3, .int 0]))] [(h0, .inr (2, [.ref h1, .int 0, .ref h2, .ref h3, .ref h4, .ref h5, .int 0, .ref h6, .int 0])), (h1, .inl (kT, 12, .inr (.inr (.inr (.inr (fun _ => none)))))), (h2, .inr (0, [.ref a1, .ref a2, .ref a3, .int 0]))] [(kT, .object RX1)] sz TT)) (va_Qi (fun (r : Int32) (u : Unit) => r = sp_raise p0) (fun _ _ => True) (va_A [(h0, .inr (2, [.ref h1, .int 0, .ref h2, .ref h3, .ref h4, .ref h5, .int 0, .ref h6, .int 0])), (h1, .inl (kT, 12, .inr (.inr (.inr (.inr (fun _ => none)))))), (h2, .inr (0, [.ref a1, .ref a2, .ref a3, .int 0]))] sz)) 0 0 (va_A [(h0, .inr (2, [.ref h1, .int 0, .ref h2, .ref h3, .ref h4, .ref h5, .int 0, .ref h6, .int 0])), (h1, .inl (kT, 12, .inr (.inr (.inr (.inr (fun _ => none)))))), (h2, .inr (0, [.ref a1, .ref a2, .ref a3, .int 0]))] sz) := by
  refine Met.ofW (cc := cX2_raise) (maxL := 2) (ret := (some .int)) (by decide) rfl ?_
  intro p e s m args below meth c s₁ B hml hv
  obtain ⟨rfl, hsz, hP, hK, hD0, hst⟩ := hv
  have hx := B.exec
  have hb := B.bytes
  have hr := B.returns
  have hts := atoms_spec (ws := wsX2_raise) B.pre
  have hown : s.vm.findClass RX2 = some m.cls := findClass_of_methodNamed B.named
  have hlocks := B.notSynchronized
  have iX2_ := in_c_X2_raise_X2
  subst hsz
  have hD := hD0.self (sz := s.heap.size)
  generalize hAe : va_A [(h0, .inr (2, [.ref h1, .int 0, .ref h2, .ref h3, .ref h4, .ref h5, .int 0, .ref h6, .int 0])), (h1, .inl (kT, 12, .inr (.inr (.inr (.inr (fun _ => none)))))), (h2, .inr (0, [.ref a1, .ref a2, .ref a3, .int 0]))] s.heap.size = A at hD hst ⊢
  have hA : ∀ q : Nat, s.heap.size ≤ q → A q := fun q h => by rw [← hAe]; exact Or.inr h
  have hS : va_S A s.heap s.heap [] := va_S.rf
  have hl := lv_entry ([.ref h0, .int p0]) (n := 2) (Nat.le_of_ble_eq_true rfl)
  rw [lg_entry_eq]
  generalize (lg_sl ([.ref h0, .int p0]) ++ List.replicate (2 - (lg_sl ([.ref h0, .int p0])).length) Slot.unset).toArray = ls at hl ⊢
  have hl : lv_has ls 2 [(0, .ref h0), (1, .int p0)] := hl
  have km11_ : Int32.toInt (-11) = -11 := by decide
  have km1_ : Int32.toInt (-1) = -1 := by decide
  refine lv_iload_n hx hb dX2_raise_0 rfl (lv_at hl 1 rfl) ?_
  refine va_calli (va_runS (As := [.int p0]) (rest := []) ⟨hx, hb, hml, hown, hts⟩ (c_X2_isSlot l dC dI TT s.heap.size p0) (va_cwS 1 hts gX2_raise_X2_isSlot rfl rfl rfl (by decide +kernel) ⟨Nat.le_of_ble_eq_true rfl, Nat.le_of_ble_eq_true rfl⟩) (pr_S (ws := []) (wA := []) (tys := []) (hP.sub [] rfl) (hK.sub [] rfl) vd_nil hst hS (ro_free hS hA)) rfl rfl hl.1 rfl (lv_room (Nat.le_of_ble_eq_true rfl)) dX2_raise_1 ⟨Nat.le_of_ble_eq_true rfl, Nat.le_of_ble_eq_true rfl⟩) hS (fun q _ h => (ro_free hS hA) q h) (ro_free hS hA) (fun r_1 u t H1 locs ht hvm hw hB hz1 hk1 hS => ?_)
  have hP := ro_keep hP hk1
  generalize H1 = H at hP hS ⊢
  rcases hw with ⟨rfl, hp_2⟩ | ⟨rfl, hp_2⟩
  · refine lv_if_eq (tgt := 19) hx hb dX2_raise_4 (by decide) (fun c9 => absurd c9 (by decide)) (fun _ => ?_)
    refine lv_aload_n hx hb dX2_raise_7 rfl (lv_at hl 0 rfl) ?_
    refine va_get (D := (dC, dI)) (ci := 2) (v := .ref h1) (C := RX2) (T := TX2) (N := 9) hx hb hts iX2_ hown hK hP 0 rfl rfl 0 (by decide) (hts (.fieldLink RX2 11 "FieldLeaves" "slots" "[LFieldLeaves$Thing;") (by decide +kernel)) (fun _ h9 => h9) rfl dX2_raise_8 ?_
    refine lv_iload_n hx hb dX2_raise_11 rfl (lv_at hl 1 rfl) ?_
    have h_3 : vp_in p0 12 := (vp_in_iff.mpr (by constructor <;> omega))
    refine va_aldq hx hb hK hP 1 0 rfl rfl h_3 dX2_raise_12 ?_
    refine W.eq (g2 := F0 m 13 ls [.null]) rfl ?_
    refine va_calli (va_runS (As := [.null]) (rest := []) ⟨hx, hb, hml, hown, hts⟩ (c_X2_thrown_null l dC dI TT H.size ) (va_cwS 1 hts gX2_raise_X2_thrown rfl rfl rfl (by decide +kernel) ⟨Nat.le_of_ble_eq_true rfl, Nat.le_of_ble_eq_true rfl⟩) (pr_S (ws := []) (wA := []) (tys := []) (hP.sub [] rfl) (hK.sub [] rfl) vd_nil hst hS (ro_free hS hA)) rfl rfl hl.1 rfl (lv_room (Nat.le_of_ble_eq_true rfl)) dX2_raise_13 ⟨Nat.le_of_ble_eq_true rfl, Nat.le_of_ble_eq_true rfl⟩) hS (fun q _ h => (ro_free hS hA) q h) (ro_free hS hA) (fun r_4 u t H1 locs ht hvm hw hB hz1 hk1 hS => ?_)
    have hP := ro_keep hP hk1
    generalize H1 = H at hP hS ⊢
    subst hw
    refine lv_goto (tgt := 20) hx hb dX2_raise_16 (by decide) ?_
    exact W.iret (v := (-11)) hx hb hr (fun t ht hW => ⟨⟨(-11), (), rfl, (show (-11) = sp_raise p0 from by unfold sp_raise; (repeat' split) <;> first | rfl | (exfalso; omega)), trivial⟩, hS.F ht⟩) hS.2.2 dX2_raise_20
  · refine lv_if_eq (tgt := 19) hx hb dX2_raise_4 (by decide) (fun _ => ?_) (fun c9 => absurd c9 (by decide))
    refine lv_iconst (v := (-1)) hx hb dX2_raise_19 (by decide) ?_
    exact W.iret (v := (-1)) hx hb hr (fun t ht hW => ⟨⟨(-1), (), rfl, (show (-1) = sp_raise p0 from by unfold sp_raise; (repeat' split) <;> first | rfl | (exfalso; omega)), trivial⟩, hS.F ht⟩) hS.2.2 dX2_raise_20
set_option maxRecDepth 20000 in
theorem in_c_X2_passes_X2 : ∀ w ∈ u_ws RX2 TX2 9, w ∈ wsX2_passes := by decide +kernel
set_option maxRecDepth 100000 in
set_option maxHeartbeats 4000000 in
theorem c_X2_passes (l : Launch) (dC : Nat → ClassId) (dI : Nat → Nat → Nat) (TT : Nat × Nat × Nat) (sz : Nat) (h0 h1 h2 h3 h4 h5 h6 a1 a2 a3 : Nat) (kT : ClassId) (p0 : Int32) (p1 : Int32) : Met l yX2_passes wsX2_passes ({ frames := 2, cells := 0, slots := 0, locals := 42 } : Room) (va_Pc [.ref h0, .int p0, .int p1] (pr dC dI [(h0, .inr (2, [.ref h1, .int 0, .ref h2, .ref h3, .ref h4, .ref h5, .int 0, .ref h6, .int 0])), (h1, .inl (kT, 12, .inr (.inr (.inr (.inr (fun _ => none)))))), (h2, .inr (0, [.ref a1, .ref a2, .ref a3, .int 0]))] [(h0, .inr (2, [.ref h1, .int 0, .ref h2, .ref h3, .ref h4, .ref h5, .int 0, .ref h6, .int 0])), (h1, .inl (kT, 12, .inr (.inr (.inr (.inr (fun _ => none)))))), (h2, .inr (0, [.ref a1, .ref a2, .ref a3, .int 0]))] [(kT, .object RX1)] sz TT)) (va_Qi (fun (r : Int32) (u : Unit) => r = sp_passes p0 p1) (fun _ _ => True) (va_A [(h0, .inr (2, [.ref h1, .int 0, .ref h2, .ref h3, .ref h4, .ref h5, .int 0, .ref h6, .int 0])), (h1, .inl (kT, 12, .inr (.inr (.inr (.inr (fun _ => none)))))), (h2, .inr (0, [.ref a1, .ref a2, .ref a3, .int 0]))] sz)) 0 0 (va_A [(h0, .inr (2, [.ref h1, .int 0, .ref h2, .ref h3, .ref h4, .ref h5, .int 0, .ref h6, .int 0])), (h1, .inl (kT, 12, .inr (.inr (.inr (.inr (fun _ => none)))))), (h2, .inr (0, [.ref a1, .ref a2, .ref a3, .int 0]))] sz) := by
  refine Met.ofW (cc := cX2_passes) (maxL := 3) (ret := (some .int)) (by decide) rfl ?_
  intro p e s m args below meth c s₁ B hml hv
  obtain ⟨rfl, hsz, hP, hK, hD0, hst⟩ := hv
  have hx := B.exec
  have hb := B.bytes
  have hr := B.returns
  have hts := atoms_spec (ws := wsX2_passes) B.pre
  have hown : s.vm.findClass RX2 = some m.cls := findClass_of_methodNamed B.named
  have hlocks := B.notSynchronized
  have iX2_ := in_c_X2_passes_X2
  subst hsz
  have hD := hD0.self (sz := s.heap.size)
  generalize hAe : va_A [(h0, .inr (2, [.ref h1, .int 0, .ref h2, .ref h3, .ref h4, .ref h5, .int 0, .ref h6, .int 0])), (h1, .inl (kT, 12, .inr (.inr (.inr (.inr (fun _ => none)))))), (h2, .inr (0, [.ref a1, .ref a2, .ref a3, .int 0]))] s.heap.size = A at hD hst ⊢
  have hA : ∀ q : Nat, s.heap.size ≤ q → A q := fun q h => by rw [← hAe]; exact Or.inr h
  have hS : va_S A s.heap s.heap [] := va_S.rf
  have hl := lv_entry ([.ref h0, .int p0, .int p1]) (n := 3) (Nat.le_of_ble_eq_true rfl)
  rw [lg_entry_eq]
  generalize (lg_sl ([.ref h0, .int p0, .int p1]) ++ List.replicate (3 - (lg_sl ([.ref h0, .int p0, .int p1])).length) Slot.unset).toArray = ls at hl ⊢
  have hl : lv_has ls 3 [(0, .ref h0), (1, .int p0), (2, .int p1)] := hl
  have km11_ : Int32.toInt (-11) = -11 := by decide
  have km1_ : Int32.toInt (-1) = -1 := by decide
  have k1_ : Int32.toInt 1 = 1 := by decide
  have k12_ : Int32.toInt 12 = 12 := by decide
  refine lv_iload_n hx hb dX2_passes_0 rfl (lv_at hl 1 rfl) ?_
  refine va_calli (va_runS (As := [.int p0]) (rest := []) ⟨hx, hb, hml, hown, hts⟩ (c_X2_isSlot l dC dI TT s.heap.size p0) (va_cwS 1 hts gX2_passes_X2_isSlot rfl rfl rfl (by decide +kernel) ⟨Nat.le_of_ble_eq_true rfl, Nat.le_of_ble_eq_true rfl⟩) (pr_S (ws := []) (wA := []) (tys := []) (hP.sub [] rfl) (hK.sub [] rfl) vd_nil hst hS (ro_free hS hA)) rfl rfl hl.1 rfl (lv_room (Nat.le_of_ble_eq_true rfl)) dX2_passes_1 ⟨Nat.le_of_ble_eq_true rfl, Nat.le_of_ble_eq_true rfl⟩) hS (fun q _ h => (ro_free hS hA) q h) (ro_free hS hA) (fun r_1 u t H1 locs ht hvm hw hB hz1 hk1 hS => ?_)
  have hP := ro_keep hP hk1
  generalize H1 = H at hP hS ⊢
  rcases hw with ⟨rfl, hp_2⟩ | ⟨rfl, hp_2⟩
  · refine lv_if_eq (tgt := 18) hx hb dX2_passes_4 (by decide) (fun c9 => absurd c9 (by decide)) (fun _ => ?_)
    refine lv_iload_n hx hb dX2_passes_7 rfl (lv_at hl 2 rfl) ?_
    refine lv_iconst (v := 1) hx hb dX2_passes_8 (by decide) ?_
    refine lv_icmp_lt (tgt := 18) hx hb dX2_passes_9 (by decide) (fun c_3 => ?_) (fun c_3 => ?_)
    · have c_3 := Int32.lt_iff_toInt_lt.mp c_3
      refine lv_iconst (v := (-1)) hx hb dX2_passes_18 (by decide) ?_
      exact W.iret (v := (-1)) hx hb hr (fun t ht hW => ⟨⟨(-1), (), rfl, (show (-1) = sp_passes p0 p1 from by unfold sp_passes; (repeat' split) <;> first | rfl | (exfalso; omega)), trivial⟩, hS.F ht⟩) hS.2.2 dX2_passes_19
    · have c_3 := mt Int32.lt_iff_toInt_lt.mpr c_3
      refine lv_iload_n hx hb dX2_passes_12 rfl (lv_at hl 2 rfl) ?_
      refine lv_bipush (v := 12) hx hb dX2_passes_13 (by decide) ?_
      refine lv_icmp_le (tgt := 20) hx hb dX2_passes_15 (by decide) (fun c_4 => ?_) (fun c_4 => ?_)
      · have c_4 := Int32.le_iff_toInt_le.mp c_4
        refine lv_aload_n hx hb dX2_passes_20 rfl (lv_at hl 0 rfl) ?_
        refine lv_iload_n hx hb dX2_passes_21 rfl (lv_at hl 2 rfl) ?_
        refine va_put (D := (dC, dI)) (ci := 2) (v := .int p1) (ty := .int) (C := RX2) (T := TX2) (N := 9) hx hb hts iX2_ tyX2 tyX2_ok nmX2 hown hK hP hD hS 0 rfl rfl 1 (by decide) (hts (.fieldLink RX2 121 "FieldLeaves" "passedCount" "I") (by decide +kernel)) (fun _ h9 => h9) rfl (by decide +kernel) rfl rfl (Nat.le_of_ble_eq_true rfl) dX2_passes_22 (fun H locs hP hD hS => ?_)
        have hP : va_P (dC, dI) vwCl [(h0, .inr (2, [.ref h1, .int p1, .ref h2, .ref h3, .ref h4, .ref h5, .int 0, .ref h6, .int 0])), (h1, .inl (kT, 12, .inr (.inr (.inr (.inr (fun _ => none)))))), (h2, .inr (0, [.ref a1, .ref a2, .ref a3, .int 0]))] H := hP
        have hD : va_D A [(h0, .inr (2, [.ref h1, .int p1, .ref h2, .ref h3, .ref h4, .ref h5, .int 0, .ref h6, .int 0])), (h1, .inl (kT, 12, .inr (.inr (.inr (.inr (fun _ => none)))))), (h2, .inr (0, [.ref a1, .ref a2, .ref a3, .int 0]))] := hD
        refine lv_aload_n hx hb dX2_passes_25 rfl (lv_at hl 0 rfl) ?_
        refine va_get (D := (dC, dI)) (ci := 2) (v := .ref h1) (C := RX2) (T := TX2) (N := 9) hx hb hts iX2_ hown hK hP 0 rfl rfl 0 (by decide) (hts (.fieldLink RX2 11 "FieldLeaves" "slots" "[LFieldLeaves$Thing;") (by decide +kernel)) (fun _ h9 => h9) rfl dX2_passes_26 ?_
        refine lv_iload_n hx hb dX2_passes_29 rfl (lv_at hl 1 rfl) ?_
        have h_5 : vp_in p0 12 := (vp_in_iff.mpr (by constructor <;> omega))
        refine va_aldq hx hb hK hP 1 0 rfl rfl h_5 dX2_passes_30 ?_
        refine W.eq (g2 := F0 m 31 ls [.null]) rfl ?_
        refine va_calli (va_runS (As := [.null]) (rest := []) ⟨hx, hb, hml, hown, hts⟩ (c_X2_thrown_null l dC dI TT H.size ) (va_cwS 1 hts gX2_passes_X2_thrown rfl rfl rfl (by decide +kernel) ⟨Nat.le_of_ble_eq_true rfl, Nat.le_of_ble_eq_true rfl⟩) (pr_S (ws := []) (wA := []) (tys := []) (hP.sub [] rfl) (hK.sub [] rfl) vd_nil hst hS (ro_free hS hA)) rfl rfl hl.1 rfl (lv_room (Nat.le_of_ble_eq_true rfl)) dX2_passes_31 ⟨Nat.le_of_ble_eq_true rfl, Nat.le_of_ble_eq_true rfl⟩) hS (fun q _ h => (ro_free hS hA) q h) (ro_free hS hA) (fun r_6 u t H1 locs ht hvm hw hB hz1 hk1 hS => ?_)
        have hP := ro_keep hP hk1
        generalize H1 = H at hP hS ⊢
        subst hw
        exact W.iret (v := (-11)) hx hb hr (fun t ht hW => ⟨⟨(-11), (), rfl, (show (-11) = sp_passes p0 p1 from by unfold sp_passes; (repeat' split) <;> first | rfl | (exfalso; omega)), trivial⟩, hS.F ht⟩) hS.2.2 dX2_passes_34
      · have c_4 := mt Int32.le_iff_toInt_le.mpr c_4
        refine lv_iconst (v := (-1)) hx hb dX2_passes_18 (by decide) ?_
        exact W.iret (v := (-1)) hx hb hr (fun t ht hW => ⟨⟨(-1), (), rfl, (show (-1) = sp_passes p0 p1 from by unfold sp_passes; (repeat' split) <;> first | rfl | (exfalso; omega)), trivial⟩, hS.F ht⟩) hS.2.2 dX2_passes_19
  · refine lv_if_eq (tgt := 18) hx hb dX2_passes_4 (by decide) (fun _ => ?_) (fun c9 => absurd c9 (by decide))
    refine lv_iconst (v := (-1)) hx hb dX2_passes_18 (by decide) ?_
    exact W.iret (v := (-1)) hx hb hr (fun t ht hW => ⟨⟨(-1), (), rfl, (show (-1) = sp_passes p0 p1 from by unfold sp_passes; (repeat' split) <;> first | rfl | (exfalso; omega)), trivial⟩, hS.F ht⟩) hS.2.2 dX2_passes_19
set_option maxRecDepth 20000 in
theorem in_c_X2_passed_X2 : ∀ w ∈ u_ws RX2 TX2 9, w ∈ wsX2_passed := by decide +kernel
set_option maxRecDepth 100000 in
set_option maxHeartbeats 4000000 in
theorem c_X2_passed (l : Launch) (dC : Nat → ClassId) (dI : Nat → Nat → Nat) (TT : Nat × Nat × Nat) (sz : Nat) (h0 h1 h2 h3 h4 h5 h6 a1 a2 a3 : Nat) (kT : ClassId)  : Met l yX2_passed wsX2_passed ({ frames := 0, cells := 0, slots := 0, locals := 0 } : Room) (va_Pc [.ref h0] (pr dC dI [(h0, .inr (2, [.ref h1, .int 0, .ref h2, .ref h3, .ref h4, .ref h5, .int 0, .ref h6, .int 0])), (h1, .inl (kT, 12, .inr (.inr (.inr (.inr (fun _ => none)))))), (h2, .inr (0, [.ref a1, .ref a2, .ref a3, .int 0]))] [(h0, .inr (2, [.ref h1, .int 0, .ref h2, .ref h3, .ref h4, .ref h5, .int 0, .ref h6, .int 0])), (h1, .inl (kT, 12, .inr (.inr (.inr (.inr (fun _ => none)))))), (h2, .inr (0, [.ref a1, .ref a2, .ref a3, .int 0]))] [(kT, .object RX1)] sz TT)) (va_Qi (fun (r : Int32) (u : Unit) => r = sp_passed) (fun _ _ => True) (va_A [(h0, .inr (2, [.ref h1, .int 0, .ref h2, .ref h3, .ref h4, .ref h5, .int 0, .ref h6, .int 0])), (h1, .inl (kT, 12, .inr (.inr (.inr (.inr (fun _ => none)))))), (h2, .inr (0, [.ref a1, .ref a2, .ref a3, .int 0]))] sz)) 0 0 (va_A [(h0, .inr (2, [.ref h1, .int 0, .ref h2, .ref h3, .ref h4, .ref h5, .int 0, .ref h6, .int 0])), (h1, .inl (kT, 12, .inr (.inr (.inr (.inr (fun _ => none)))))), (h2, .inr (0, [.ref a1, .ref a2, .ref a3, .int 0]))] sz) := by
  refine Met.ofW (cc := cX2_passed) (maxL := 1) (ret := (some .int)) (by decide) rfl ?_
  intro p e s m args below meth c s₁ B hml hv
  obtain ⟨rfl, hsz, hP, hK, hD0, hst⟩ := hv
  have hx := B.exec
  have hb := B.bytes
  have hr := B.returns
  have hts := atoms_spec (ws := wsX2_passed) B.pre
  have hown : s.vm.findClass RX2 = some m.cls := findClass_of_methodNamed B.named
  have hlocks := B.notSynchronized
  have iX2_ := in_c_X2_passed_X2
  subst hsz
  have hD := hD0.self (sz := s.heap.size)
  generalize hAe : va_A [(h0, .inr (2, [.ref h1, .int 0, .ref h2, .ref h3, .ref h4, .ref h5, .int 0, .ref h6, .int 0])), (h1, .inl (kT, 12, .inr (.inr (.inr (.inr (fun _ => none)))))), (h2, .inr (0, [.ref a1, .ref a2, .ref a3, .int 0]))] s.heap.size = A at hD hst ⊢
  have hA : ∀ q : Nat, s.heap.size ≤ q → A q := fun q h => by rw [← hAe]; exact Or.inr h
  have hS : va_S A s.heap s.heap [] := va_S.rf
  have hl := lv_entry ([.ref h0]) (n := 1) (Nat.le_of_ble_eq_true rfl)
  rw [lg_entry_eq]
  generalize (lg_sl ([.ref h0]) ++ List.replicate (1 - (lg_sl ([.ref h0])).length) Slot.unset).toArray = ls at hl ⊢
  have hl : lv_has ls 1 [(0, .ref h0)] := hl
  have k0_ : Int32.toInt 0 = 0 := by decide
  refine lv_aload_n hx hb dX2_passed_0 rfl (lv_at hl 0 rfl) ?_
  refine va_get (D := (dC, dI)) (ci := 2) (v := .int 0) (C := RX2) (T := TX2) (N := 9) hx hb hts iX2_ hown hK hP 0 rfl rfl 1 (by decide) (hts (.fieldLink RX2 121 "FieldLeaves" "passedCount" "I") (by decide +kernel)) (fun _ h9 => h9) rfl dX2_passed_1 ?_
  exact W.iret (v := 0) hx hb hr (fun t ht hW => ⟨⟨0, (), rfl, (show 0 = sp_passed from by unfold sp_passed; (repeat' split) <;> first | rfl | (exfalso; omega)), trivial⟩, hS.F ht⟩) hS.2.2 dX2_passed_4
set_option maxRecDepth 20000 in
theorem in_c_X2_leaves_X2 : ∀ w ∈ u_ws RX2 TX2 9, w ∈ wsX2_leaves := by decide +kernel
set_option maxRecDepth 100000 in
set_option maxHeartbeats 4000000 in
theorem c_X2_leaves (l : Launch) (dC : Nat → ClassId) (dI : Nat → Nat → Nat) (TT : Nat × Nat × Nat) (sz : Nat) (h0 h1 h2 h3 h4 h5 h6 a1 a2 a3 : Nat) (kT : ClassId) (p0 : Int32) : Met l yX2_leaves wsX2_leaves ({ frames := 1, cells := 0, slots := 0, locals := 20 } : Room) (va_Pc [.ref h0, .int p0] (pr dC dI [(h0, .inr (2, [.ref h1, .int 0, .ref h2, .ref h3, .ref h4, .ref h5, .int 0, .ref h6, .int 0])), (h1, .inl (kT, 12, .inr (.inr (.inr (.inr (fun _ => none)))))), (h2, .inr (0, [.ref a1, .ref a2, .ref a3, .int 0]))] [(h0, .inr (2, [.ref h1, .int 0, .ref h2, .ref h3, .ref h4, .ref h5, .int 0, .ref h6, .int 0])), (h1, .inl (kT, 12, .inr (.inr (.inr (.inr (fun _ => none)))))), (h2, .inr (0, [.ref a1, .ref a2, .ref a3, .int 0]))] [(kT, .object RX1)] sz TT)) (va_Qi (fun (r : Int32) (u : Unit) => r = sp_leaves p0) (fun _ _ => True) (va_A [(h0, .inr (2, [.ref h1, .int 0, .ref h2, .ref h3, .ref h4, .ref h5, .int 0, .ref h6, .int 0])), (h1, .inl (kT, 12, .inr (.inr (.inr (.inr (fun _ => none)))))), (h2, .inr (0, [.ref a1, .ref a2, .ref a3, .int 0]))] sz)) 0 0 (va_A [(h0, .inr (2, [.ref h1, .int 0, .ref h2, .ref h3, .ref h4, .ref h5, .int 0, .ref h6, .int 0])), (h1, .inl (kT, 12, .inr (.inr (.inr (.inr (fun _ => none)))))), (h2, .inr (0, [.ref a1, .ref a2, .ref a3, .int 0]))] sz) := by
  refine Met.ofW (cc := cX2_leaves) (maxL := 4) (ret := (some .int)) (by decide) rfl ?_
  intro p e s m args below meth c s₁ B hml hv
  obtain ⟨rfl, hsz, hP, hK, hD0, hst⟩ := hv
  have hx := B.exec
  have hb := B.bytes
  have hr := B.returns
  have hts := atoms_spec (ws := wsX2_leaves) B.pre
  have hown : s.vm.findClass RX2 = some m.cls := findClass_of_methodNamed B.named
  have hlocks := B.notSynchronized
  have iX2_ := in_c_X2_leaves_X2
  subst hsz
  have hD := hD0.self (sz := s.heap.size)
  generalize hAe : va_A [(h0, .inr (2, [.ref h1, .int 0, .ref h2, .ref h3, .ref h4, .ref h5, .int 0, .ref h6, .int 0])), (h1, .inl (kT, 12, .inr (.inr (.inr (.inr (fun _ => none)))))), (h2, .inr (0, [.ref a1, .ref a2, .ref a3, .int 0]))] s.heap.size = A at hD hst ⊢
  have hA : ∀ q : Nat, s.heap.size ≤ q → A q := fun q h => by rw [← hAe]; exact Or.inr h
  have hS : va_S A s.heap s.heap [] := va_S.rf
  have hl := lv_entry ([.ref h0, .int p0]) (n := 4) (Nat.le_of_ble_eq_true rfl)
  rw [lg_entry_eq]
  generalize (lg_sl ([.ref h0, .int p0]) ++ List.replicate (4 - (lg_sl ([.ref h0, .int p0])).length) Slot.unset).toArray = ls at hl ⊢
  have hl : lv_has ls 4 [(0, .ref h0), (1, .int p0)] := hl
  have km11_ : Int32.toInt (-11) = -11 := by decide
  have km1_ : Int32.toInt (-1) = -1 := by decide
  refine lv_iload_n hx hb dX2_leaves_0 rfl (lv_at hl 1 rfl) ?_
  refine va_calli (va_runS (As := [.int p0]) (rest := []) ⟨hx, hb, hml, hown, hts⟩ (c_X2_isSlot l dC dI TT s.heap.size p0) (va_cwS 1 hts gX2_leaves_X2_isSlot rfl rfl rfl (by decide +kernel) ⟨Nat.le_of_ble_eq_true rfl, Nat.le_of_ble_eq_true rfl⟩) (pr_S (ws := []) (wA := []) (tys := []) (hP.sub [] rfl) (hK.sub [] rfl) vd_nil hst hS (ro_free hS hA)) rfl rfl hl.1 rfl (lv_room (Nat.le_of_ble_eq_true rfl)) dX2_leaves_1 ⟨Nat.le_of_ble_eq_true rfl, Nat.le_of_ble_eq_true rfl⟩) hS (fun q _ h => (ro_free hS hA) q h) (ro_free hS hA) (fun r_1 u t H1 locs ht hvm hw hB hz1 hk1 hS => ?_)
  have hP := ro_keep hP hk1
  generalize H1 = H at hP hS ⊢
  rcases hw with ⟨rfl, hp_2⟩ | ⟨rfl, hp_2⟩
  · refine lv_if_ne (tgt := 9) hx hb dX2_leaves_4 (by decide) (fun _ => ?_) (fun c9 => absurd c9 (by decide))
    refine lv_aload_n hx hb dX2_leaves_9 rfl (lv_at hl 0 rfl) ?_
    refine va_get (D := (dC, dI)) (ci := 2) (v := .ref h1) (C := RX2) (T := TX2) (N := 9) hx hb hts iX2_ hown hK hP 0 rfl rfl 0 (by decide) (hts (.fieldLink RX2 11 "FieldLeaves" "slots" "[LFieldLeaves$Thing;") (by decide +kernel)) (fun _ h9 => h9) rfl dX2_leaves_10 ?_
    refine lv_iload_n hx hb dX2_leaves_13 rfl (lv_at hl 1 rfl) ?_
    have h_3 : vp_in p0 12 := (vp_in_iff.mpr (by constructor <;> omega))
    refine va_aldq hx hb hK hP 1 0 rfl rfl h_3 dX2_leaves_14 ?_
    refine W.eq (g2 := F0 m 15 ls [.null]) rfl ?_
    refine lv_astore_nN (lv' := [(2, .null), (0, .ref h0), (1, .int p0)]) hx hb dX2_leaves_15 rfl hl (by decide) rfl (fun ls hl => ?_)
    refine lv_aload_nN hx hb dX2_leaves_16 rfl (lv_at hl 0 rfl) ?_
    refine lv_ifnonnullN hx hb dX2_leaves_17 ?_
    refine lv_bipush (v := (-11)) hx hb dX2_leaves_20 (by decide) ?_
    exact W.iret (v := (-11)) hx hb hr (fun t ht hW => ⟨⟨(-11), (), rfl, (show (-11) = sp_leaves p0 from by unfold sp_leaves; (repeat' split) <;> first | rfl | (exfalso; omega)), trivial⟩, hS.F ht⟩) hS.2.2 dX2_leaves_22
  · refine lv_if_ne (tgt := 9) hx hb dX2_leaves_4 (by decide) (fun c9 => absurd c9 (by decide)) (fun _ => ?_)
    refine lv_iconst (v := (-1)) hx hb dX2_leaves_7 (by decide) ?_
    exact W.iret (v := (-1)) hx hb hr (fun t ht hW => ⟨⟨(-1), (), rfl, (show (-1) = sp_leaves p0 from by unfold sp_leaves; (repeat' split) <;> first | rfl | (exfalso; omega)), trivial⟩, hS.F ht⟩) hS.2.2 dX2_leaves_8
set_option maxRecDepth 20000 in
theorem in_c_X2_leaf_X2 : ∀ w ∈ u_ws RX2 TX2 9, w ∈ wsX2_leaf := by decide +kernel
set_option maxRecDepth 100000 in
set_option maxHeartbeats 4000000 in
theorem c_X2_leaf (l : Launch) (dC : Nat → ClassId) (dI : Nat → Nat → Nat) (TT : Nat × Nat × Nat) (sz : Nat) (h0 h1 h2 h3 h4 h5 h6 a1 a2 a3 : Nat) (kT : ClassId) (p0 : Int32) (p1 : Int32) : Met l yX2_leaf wsX2_leaf ({ frames := 1, cells := 0, slots := 0, locals := 21 } : Room) (va_Pc [.ref h0, .int p0, .int p1] (pr dC dI [(h0, .inr (2, [.ref h1, .int 0, .ref h2, .ref h3, .ref h4, .ref h5, .int 0, .ref h6, .int 0])), (h1, .inl (kT, 12, .inr (.inr (.inr (.inr (fun _ => none)))))), (h2, .inr (0, [.ref a1, .ref a2, .ref a3, .int 0]))] [(h0, .inr (2, [.ref h1, .int 0, .ref h2, .ref h3, .ref h4, .ref h5, .int 0, .ref h6, .int 0])), (h1, .inl (kT, 12, .inr (.inr (.inr (.inr (fun _ => none)))))), (h2, .inr (0, [.ref a1, .ref a2, .ref a3, .int 0]))] [(kT, .object RX1)] sz TT)) (va_Ql (fun (r : Int64) (u : Unit) => r = sp_leaf p0 p1) (fun _ _ => True) (va_A [(h0, .inr (2, [.ref h1, .int 0, .ref h2, .ref h3, .ref h4, .ref h5, .int 0, .ref h6, .int 0])), (h1, .inl (kT, 12, .inr (.inr (.inr (.inr (fun _ => none)))))), (h2, .inr (0, [.ref a1, .ref a2, .ref a3, .int 0]))] sz)) 0 0 (va_A [(h0, .inr (2, [.ref h1, .int 0, .ref h2, .ref h3, .ref h4, .ref h5, .int 0, .ref h6, .int 0])), (h1, .inl (kT, 12, .inr (.inr (.inr (.inr (fun _ => none)))))), (h2, .inr (0, [.ref a1, .ref a2, .ref a3, .int 0]))] sz) := by
  refine Met.ofW (cc := cX2_leaf) (maxL := 3) (ret := (some .long)) (by decide) rfl ?_
  intro p e s m args below meth c s₁ B hml hv
  obtain ⟨rfl, hsz, hP, hK, hD0, hst⟩ := hv
  have hx := B.exec
  have hb := B.bytes
  have hr := B.returns
  have hts := atoms_spec (ws := wsX2_leaf) B.pre
  have hown : s.vm.findClass RX2 = some m.cls := findClass_of_methodNamed B.named
  have hlocks := B.notSynchronized
  have iX2_ := in_c_X2_leaf_X2
  subst hsz
  have hD := hD0.self (sz := s.heap.size)
  generalize hAe : va_A [(h0, .inr (2, [.ref h1, .int 0, .ref h2, .ref h3, .ref h4, .ref h5, .int 0, .ref h6, .int 0])), (h1, .inl (kT, 12, .inr (.inr (.inr (.inr (fun _ => none)))))), (h2, .inr (0, [.ref a1, .ref a2, .ref a3, .int 0]))] s.heap.size = A at hD hst ⊢
  have hA : ∀ q : Nat, s.heap.size ≤ q → A q := fun q h => by rw [← hAe]; exact Or.inr h
  have hS : va_S A s.heap s.heap [] := va_S.rf
  have hl := lv_entry ([.ref h0, .int p0, .int p1]) (n := 3) (Nat.le_of_ble_eq_true rfl)
  rw [lg_entry_eq]
  generalize (lg_sl ([.ref h0, .int p0, .int p1]) ++ List.replicate (3 - (lg_sl ([.ref h0, .int p0, .int p1])).length) Slot.unset).toArray = ls at hl ⊢
  have hl : lv_has ls 3 [(0, .ref h0), (1, .int p0), (2, .int p1)] := hl
  have klm1_ : Int64.toInt (-1) = -1 := by decide
  refine lv_aload_n hx hb dX2_leaf_0 rfl (lv_at hl 0 rfl) ?_
  refine va_get (D := (dC, dI)) (ci := 2) (v := .ref h2) (C := RX2) (T := TX2) (N := 9) hx hb hts iX2_ hown hK hP 0 rfl rfl 2 (by decide) (hts (.fieldLink RX2 18 "FieldLeaves" "current" "LFieldLeaves$LeafList;") (by decide +kernel)) (fun _ h9 => h9) rfl dX2_leaf_1 ?_
  refine lv_iload_n hx hb dX2_leaf_4 rfl (lv_at hl 1 rfl) ?_
  refine va_calli (va_runV (b := h2) (As := [.int p0]) (rest := []) ⟨hx, hb, hml, hown, hts⟩ (c_X0_has_0 l dC dI TT s.heap.size h2 a1 a2 a3 p0) (cwV 1 hts gX2_leaf_X0_has rfl rfl rfl (by decide +kernel) ⟨Nat.le_of_ble_eq_true rfl, Nat.le_of_ble_eq_true rfl⟩) ⟨pr_blind, va_recv hK hP (ci := 0) (q0 := 2) rfl rfl, (pr_S (ws := [(h2, .inr (0, [.ref a1, .ref a2, .ref a3, .int 0]))]) (wA := []) (tys := []) (hP.sub [2] rfl) (hK.sub [] rfl) vd_nil hst hS (ro_free hS hA)).2⟩ rfl rfl hl.1 rfl (lv_room (Nat.le_of_ble_eq_true rfl)) dX2_leaf_5 ⟨Nat.le_of_ble_eq_true rfl, Nat.le_of_ble_eq_true rfl⟩) hS (fun q _ h => (ro_free hS hA) q h) (ro_free hS hA) (fun r_1 u t H1 locs ht hvm hw hB hz1 hk1 hS => ?_)
  have hP := ro_keep hP hk1
  generalize H1 = H at hP hS ⊢
  subst hw
  refine lv_if_eq (tgt := 20) hx hb dX2_leaf_8 (by decide) (fun _ => ?_) (fun c9 => absurd c9 (by decide))
  refine lv_ldc2 hx hb hown (hts (.constantLong RX2 55 (-1)) (by decide +kernel)) dX2_leaf_20 ?_
  exact W.lret (v := (-1)) hx hb hr (fun t ht hW => ⟨⟨(-1), (), rfl, (show (-1) = sp_leaf p0 p1 from by unfold sp_leaf; (repeat' split) <;> first | rfl | (exfalso; omega)), trivial⟩, hS.F ht⟩) hS.2.2 dX2_leaf_23
set_option maxRecDepth 20000 in
theorem in_c_X2_alter_X2 : ∀ w ∈ u_ws RX2 TX2 9, w ∈ wsX2_alter := by decide +kernel
set_option maxRecDepth 100000 in
set_option maxHeartbeats 4000000 in
theorem c_X2_alter (l : Launch) (dC : Nat → ClassId) (dI : Nat → Nat → Nat) (TT : Nat × Nat × Nat) (sz : Nat) (h0 h1 h2 h3 h4 h5 h6 a1 a2 a3 : Nat) (kT : ClassId) (p0 : Int32) (p1 : Int64) : Met l yX2_alter wsX2_alter ({ frames := 1, cells := 0, slots := 0, locals := 21 } : Room) (va_Pc [.ref h0, .int p0, .long p1] (pr dC dI [(h0, .inr (2, [.ref h1, .int 0, .ref h2, .ref h3, .ref h4, .ref h5, .int 0, .ref h6, .int 0])), (h1, .inl (kT, 12, .inr (.inr (.inr (.inr (fun _ => none)))))), (h2, .inr (0, [.ref a1, .ref a2, .ref a3, .int 0]))] [(h0, .inr (2, [.ref h1, .int 0, .ref h2, .ref h3, .ref h4, .ref h5, .int 0, .ref h6, .int 0])), (h1, .inl (kT, 12, .inr (.inr (.inr (.inr (fun _ => none)))))), (h2, .inr (0, [.ref a1, .ref a2, .ref a3, .int 0]))] [(kT, .object RX1)] sz TT)) (va_Qi (fun (r : Int32) (u : Unit) => r = sp_alter p0 p1) (fun _ _ => True) (va_A [(h0, .inr (2, [.ref h1, .int 0, .ref h2, .ref h3, .ref h4, .ref h5, .int 0, .ref h6, .int 0])), (h1, .inl (kT, 12, .inr (.inr (.inr (.inr (fun _ => none)))))), (h2, .inr (0, [.ref a1, .ref a2, .ref a3, .int 0]))] sz)) 0 0 (va_A [(h0, .inr (2, [.ref h1, .int 0, .ref h2, .ref h3, .ref h4, .ref h5, .int 0, .ref h6, .int 0])), (h1, .inl (kT, 12, .inr (.inr (.inr (.inr (fun _ => none)))))), (h2, .inr (0, [.ref a1, .ref a2, .ref a3, .int 0]))] sz) := by
  refine Met.ofW (cc := cX2_alter) (maxL := 4) (ret := (some .int)) (by decide) rfl ?_
  intro p e s m args below meth c s₁ B hml hv
  obtain ⟨rfl, hsz, hP, hK, hD0, hst⟩ := hv
  have hx := B.exec
  have hb := B.bytes
  have hr := B.returns
  have hts := atoms_spec (ws := wsX2_alter) B.pre
  have hown : s.vm.findClass RX2 = some m.cls := findClass_of_methodNamed B.named
  have hlocks := B.notSynchronized
  have iX2_ := in_c_X2_alter_X2
  subst hsz
  have hD := hD0.self (sz := s.heap.size)
  generalize hAe : va_A [(h0, .inr (2, [.ref h1, .int 0, .ref h2, .ref h3, .ref h4, .ref h5, .int 0, .ref h6, .int 0])), (h1, .inl (kT, 12, .inr (.inr (.inr (.inr (fun _ => none)))))), (h2, .inr (0, [.ref a1, .ref a2, .ref a3, .int 0]))] s.heap.size = A at hD hst ⊢
  have hA : ∀ q : Nat, s.heap.size ≤ q → A q := fun q h => by rw [← hAe]; exact Or.inr h
  have hS : va_S A s.heap s.heap [] := va_S.rf
  have hl := lv_entry ([.ref h0, .int p0, .long p1]) (n := 4) (Nat.le_of_ble_eq_true rfl)
  rw [lg_entry_eq]
  generalize (lg_sl ([.ref h0, .int p0, .long p1]) ++ List.replicate (4 - (lg_sl ([.ref h0, .int p0, .long p1])).length) Slot.unset).toArray = ls at hl ⊢
  have hl : lv_has ls 4 [(0, .ref h0), (1, .int p0), (2, .long p1)] := hl
  have km1_ : Int32.toInt (-1) = -1 := by decide
  refine lv_aload_n hx hb dX2_alter_0 rfl (lv_at hl 0 rfl) ?_
  refine va_get (D := (dC, dI)) (ci := 2) (v := .ref h2) (C := RX2) (T := TX2) (N := 9) hx hb hts iX2_ hown hK hP 0 rfl rfl 2 (by decide) (hts (.fieldLink RX2 18 "FieldLeaves" "current" "LFieldLeaves$LeafList;") (by decide +kernel)) (fun _ h9 => h9) rfl dX2_alter_1 ?_
  refine lv_iload_n hx hb dX2_alter_4 rfl (lv_at hl 1 rfl) ?_
  refine va_calli (va_runV (b := h2) (As := [.int p0]) (rest := []) ⟨hx, hb, hml, hown, hts⟩ (c_X0_has_0 l dC dI TT s.heap.size h2 a1 a2 a3 p0) (cwV 1 hts gX2_alter_X0_has rfl rfl rfl (by decide +kernel) ⟨Nat.le_of_ble_eq_true rfl, Nat.le_of_ble_eq_true rfl⟩) ⟨pr_blind, va_recv hK hP (ci := 0) (q0 := 2) rfl rfl, (pr_S (ws := [(h2, .inr (0, [.ref a1, .ref a2, .ref a3, .int 0]))]) (wA := []) (tys := []) (hP.sub [2] rfl) (hK.sub [] rfl) vd_nil hst hS (ro_free hS hA)).2⟩ rfl rfl hl.1 rfl (lv_room (Nat.le_of_ble_eq_true rfl)) dX2_alter_5 ⟨Nat.le_of_ble_eq_true rfl, Nat.le_of_ble_eq_true rfl⟩) hS (fun q _ h => (ro_free hS hA) q h) (ro_free hS hA) (fun r_1 u t H1 locs ht hvm hw hB hz1 hk1 hS => ?_)
  have hP := ro_keep hP hk1
  generalize H1 = H at hP hS ⊢
  subst hw
  refine lv_if_eq (tgt := 38) hx hb dX2_alter_8 (by decide) (fun _ => ?_) (fun c9 => absurd c9 (by decide))
  refine lv_iconst (v := (-1)) hx hb dX2_alter_38 (by decide) ?_
  exact W.iret (v := (-1)) hx hb hr (fun t ht hW => ⟨⟨(-1), (), rfl, (show (-1) = sp_alter p0 p1 from by unfold sp_alter; (repeat' split) <;> first | rfl | (exfalso; omega)), trivial⟩, hS.F ht⟩) hS.2.2 dX2_alter_39
set_option maxRecDepth 20000 in
theorem in_c_X2_back_X0 : ∀ w ∈ u_ws RX0 TX0 4, w ∈ wsX2_back := by decide +kernel
set_option maxRecDepth 20000 in
theorem in_c_X2_back_X2 : ∀ w ∈ u_ws RX2 TX2 9, w ∈ wsX2_back := by decide +kernel
set_option maxRecDepth 100000 in
set_option maxHeartbeats 4000000 in
theorem c_X2_back (l : Launch) (dC : Nat → ClassId) (dI : Nat → Nat → Nat) (TT : Nat × Nat × Nat) (sz : Nat) (h0 h1 h2 h3 h4 h5 h6 a1 a2 a3 : Nat) (kT : ClassId) (p0 : Int32) : Met l yX2_back wsX2_back ({ frames := 1, cells := 0, slots := 0, locals := 20 } : Room) (va_Pc [.ref h0, .int p0] (pr dC dI [(h0, .inr (2, [.ref h1, .int 0, .ref h2, .ref h3, .ref h4, .ref h5, .int 0, .ref h6, .int 0])), (h1, .inl (kT, 12, .inr (.inr (.inr (.inr (fun _ => none)))))), (h2, .inr (0, [.ref a1, .ref a2, .ref a3, .int 0]))] [(h0, .inr (2, [.ref h1, .int 0, .ref h2, .ref h3, .ref h4, .ref h5, .int 0, .ref h6, .int 0])), (h1, .inl (kT, 12, .inr (.inr (.inr (.inr (fun _ => none)))))), (h2, .inr (0, [.ref a1, .ref a2, .ref a3, .int 0]))] [(kT, .object RX1)] sz TT)) (va_Qi (fun (r : Int32) (u : Unit) => r = sp_back p0) (fun _ _ => True) (va_A [(h0, .inr (2, [.ref h1, .int 0, .ref h2, .ref h3, .ref h4, .ref h5, .int 0, .ref h6, .int 0])), (h1, .inl (kT, 12, .inr (.inr (.inr (.inr (fun _ => none)))))), (h2, .inr (0, [.ref a1, .ref a2, .ref a3, .int 0]))] sz)) 0 0 (va_A [(h0, .inr (2, [.ref h1, .int 0, .ref h2, .ref h3, .ref h4, .ref h5, .int 0, .ref h6, .int 0])), (h1, .inl (kT, 12, .inr (.inr (.inr (.inr (fun _ => none)))))), (h2, .inr (0, [.ref a1, .ref a2, .ref a3, .int 0]))] sz) := by
  refine Met.ofW (cc := cX2_back) (maxL := 3) (ret := (some .int)) (by decide) rfl ?_
  intro p e s m args below meth c s₁ B hml hv
  obtain ⟨rfl, hsz, hP, hK, hD0, hst⟩ := hv
  have hx := B.exec
  have hb := B.bytes
  have hr := B.returns
  have hts := atoms_spec (ws := wsX2_back) B.pre
  have hown : s.vm.findClass RX2 = some m.cls := findClass_of_methodNamed B.named
  have hlocks := B.notSynchronized
  have iX0_ := in_c_X2_back_X0
  have iX2_ := in_c_X2_back_X2
  subst hsz
  have hD := hD0.self (sz := s.heap.size)
  generalize hAe : va_A [(h0, .inr (2, [.ref h1, .int 0, .ref h2, .ref h3, .ref h4, .ref h5, .int 0, .ref h6, .int 0])), (h1, .inl (kT, 12, .inr (.inr (.inr (.inr (fun _ => none)))))), (h2, .inr (0, [.ref a1, .ref a2, .ref a3, .int 0]))] s.heap.size = A at hD hst ⊢
  have hA : ∀ q : Nat, s.heap.size ≤ q → A q := fun q h => by rw [← hAe]; exact Or.inr h
  have hS : va_S A s.heap s.heap [] := va_S.rf
  have hl := lv_entry ([.ref h0, .int p0]) (n := 3) (Nat.le_of_ble_eq_true rfl)
  rw [lg_entry_eq]
  generalize (lg_sl ([.ref h0, .int p0]) ++ List.replicate (3 - (lg_sl ([.ref h0, .int p0])).length) Slot.unset).toArray = ls at hl ⊢
  have hl : lv_has ls 3 [(0, .ref h0), (1, .int p0)] := hl
  have km3_ : Int32.toInt (-3) = -3 := by decide
  have km1_ : Int32.toInt (-1) = -1 := by decide
  refine lv_iload_n hx hb dX2_back_0 rfl (lv_at hl 1 rfl) ?_
  refine va_calli (va_runS (As := [.int p0]) (rest := []) ⟨hx, hb, hml, hown, hts⟩ (c_X2_isSlot l dC dI TT s.heap.size p0) (va_cwS 1 hts gX2_back_X2_isSlot rfl rfl rfl (by decide +kernel) ⟨Nat.le_of_ble_eq_true rfl, Nat.le_of_ble_eq_true rfl⟩) (pr_S (ws := []) (wA := []) (tys := []) (hP.sub [] rfl) (hK.sub [] rfl) vd_nil hst hS (ro_free hS hA)) rfl rfl hl.1 rfl (lv_room (Nat.le_of_ble_eq_true rfl)) dX2_back_1 ⟨Nat.le_of_ble_eq_true rfl, Nat.le_of_ble_eq_true rfl⟩) hS (fun q _ h => (ro_free hS hA) q h) (ro_free hS hA) (fun r_1 u t H1 locs ht hvm hw hB hz1 hk1 hS => ?_)
  have hP := ro_keep hP hk1
  generalize H1 = H at hP hS ⊢
  rcases hw with ⟨rfl, hp_2⟩ | ⟨rfl, hp_2⟩
  · refine lv_if_ne (tgt := 9) hx hb dX2_back_4 (by decide) (fun _ => ?_) (fun c9 => absurd c9 (by decide))
    refine lv_aload_n hx hb dX2_back_9 rfl (lv_at hl 0 rfl) ?_
    refine va_get (D := (dC, dI)) (ci := 2) (v := .ref h2) (C := RX2) (T := TX2) (N := 9) hx hb hts iX2_ hown hK hP 0 rfl rfl 2 (by decide) (hts (.fieldLink RX2 18 "FieldLeaves" "current" "LFieldLeaves$LeafList;") (by decide +kernel)) (fun _ h9 => h9) rfl dX2_back_10 ?_
    refine va_get (D := (dC, dI)) (ci := 0) (v := .int 0) (C := RX0) (T := TX0) (N := 4) hx hb hts iX0_ hown hK hP 2 rfl rfl 3 (by decide) (hts (.fieldLink RX2 128 "FieldLeaves$LeafList" "size" "I") (by decide +kernel)) (fun _ h9 => h9) rfl dX2_back_13 ?_
    refine lv_if_ne (tgt := 22) hx hb dX2_back_16 (by decide) (fun c9 => absurd c9 (by decide)) (fun _ => ?_)
    refine lv_bipush (v := (-3)) hx hb dX2_back_19 (by decide) ?_
    exact W.iret (v := (-3)) hx hb hr (fun t ht hW => ⟨⟨(-3), (), rfl, (show (-3) = sp_back p0 from by unfold sp_back; (repeat' split) <;> first | rfl | (exfalso; omega)), trivial⟩, hS.F ht⟩) hS.2.2 dX2_back_21
  · refine lv_if_ne (tgt := 9) hx hb dX2_back_4 (by decide) (fun c9 => absurd c9 (by decide)) (fun _ => ?_)
    refine lv_iconst (v := (-1)) hx hb dX2_back_7 (by decide) ?_
    exact W.iret (v := (-1)) hx hb hr (fun t ht hW => ⟨⟨(-1), (), rfl, (show (-1) = sp_back p0 from by unfold sp_back; (repeat' split) <;> first | rfl | (exfalso; omega)), trivial⟩, hS.F ht⟩) hS.2.2 dX2_back_8
set_option maxRecDepth 20000 in
theorem in_c_X2_equal_X2 : ∀ w ∈ u_ws RX2 TX2 9, w ∈ wsX2_equal := by decide +kernel
set_option maxRecDepth 100000 in
set_option maxHeartbeats 4000000 in
theorem c_X2_equal (l : Launch) (dC : Nat → ClassId) (dI : Nat → Nat → Nat) (TT : Nat × Nat × Nat) (sz : Nat) (h0 h1 h2 h3 h4 h5 h6 a1 a2 a3 : Nat) (kT : ClassId) (p0 : Int32) (p1 : Int32) : Met l yX2_equal wsX2_equal ({ frames := 1, cells := 0, slots := 0, locals := 20 } : Room) (va_Pc [.ref h0, .int p0, .int p1] (pr dC dI [(h0, .inr (2, [.ref h1, .int 0, .ref h2, .ref h3, .ref h4, .ref h5, .int 0, .ref h6, .int 0])), (h1, .inl (kT, 12, .inr (.inr (.inr (.inr (fun _ => none)))))), (h2, .inr (0, [.ref a1, .ref a2, .ref a3, .int 0]))] [(h0, .inr (2, [.ref h1, .int 0, .ref h2, .ref h3, .ref h4, .ref h5, .int 0, .ref h6, .int 0])), (h1, .inl (kT, 12, .inr (.inr (.inr (.inr (fun _ => none)))))), (h2, .inr (0, [.ref a1, .ref a2, .ref a3, .int 0]))] [(kT, .object RX1)] sz TT)) (va_Qi (fun (r : Int32) (u : Unit) => r = sp_equal p0 p1) (fun _ _ => True) (va_A [(h0, .inr (2, [.ref h1, .int 0, .ref h2, .ref h3, .ref h4, .ref h5, .int 0, .ref h6, .int 0])), (h1, .inl (kT, 12, .inr (.inr (.inr (.inr (fun _ => none)))))), (h2, .inr (0, [.ref a1, .ref a2, .ref a3, .int 0]))] sz)) 0 0 (va_A [(h0, .inr (2, [.ref h1, .int 0, .ref h2, .ref h3, .ref h4, .ref h5, .int 0, .ref h6, .int 0])), (h1, .inl (kT, 12, .inr (.inr (.inr (.inr (fun _ => none)))))), (h2, .inr (0, [.ref a1, .ref a2, .ref a3, .int 0]))] sz) := by
  refine Met.ofW (cc := cX2_equal) (maxL := 5) (ret := (some .int)) (by decide) rfl ?_
  intro p e s m args below meth c s₁ B hml hv
  obtain ⟨rfl, hsz, hP, hK, hD0, hst⟩ := hv
  have hx := B.exec
  have hb := B.bytes
  have hr := B.returns
  have hts := atoms_spec (ws := wsX2_equal) B.pre
  have hown : s.vm.findClass RX2 = some m.cls := findClass_of_methodNamed B.named
  have hlocks := B.notSynchronized
  have iX2_ := in_c_X2_equal_X2
  subst hsz
  have hD := hD0.self (sz := s.heap.size)
  generalize hAe : va_A [(h0, .inr (2, [.ref h1, .int 0, .ref h2, .ref h3, .ref h4, .ref h5, .int 0, .ref h6, .int 0])), (h1, .inl (kT, 12, .inr (.inr (.inr (.inr (fun _ => none)))))), (h2, .inr (0, [.ref a1, .ref a2, .ref a3, .int 0]))] s.heap.size = A at hD hst ⊢
  have hA : ∀ q : Nat, s.heap.size ≤ q → A q := fun q h => by rw [← hAe]; exact Or.inr h
  have hS : va_S A s.heap s.heap [] := va_S.rf
  have hl := lv_entry ([.ref h0, .int p0, .int p1]) (n := 5) (Nat.le_of_ble_eq_true rfl)
  rw [lg_entry_eq]
  generalize (lg_sl ([.ref h0, .int p0, .int p1]) ++ List.replicate (5 - (lg_sl ([.ref h0, .int p0, .int p1])).length) Slot.unset).toArray = ls at hl ⊢
  have hl : lv_has ls 5 [(0, .ref h0), (1, .int p0), (2, .int p1)] := hl
  have km1_ : Int32.toInt (-1) = -1 := by decide
  have k1_ : Int32.toInt 1 = 1 := by decide
  refine lv_iload_n hx hb dX2_equal_0 rfl (lv_at hl 1 rfl) ?_
  refine va_calli (va_runS (As := [.int p0]) (rest := []) ⟨hx, hb, hml, hown, hts⟩ (c_X2_isSlot l dC dI TT s.heap.size p0) (va_cwS 1 hts gX2_equal_X2_isSlot rfl rfl rfl (by decide +kernel) ⟨Nat.le_of_ble_eq_true rfl, Nat.le_of_ble_eq_true rfl⟩) (pr_S (ws := []) (wA := []) (tys := []) (hP.sub [] rfl) (hK.sub [] rfl) vd_nil hst hS (ro_free hS hA)) rfl rfl hl.1 rfl (lv_room (Nat.le_of_ble_eq_true rfl)) dX2_equal_1 ⟨Nat.le_of_ble_eq_true rfl, Nat.le_of_ble_eq_true rfl⟩) hS (fun q _ h => (ro_free hS hA) q h) (ro_free hS hA) (fun r_1 u t H1 locs ht hvm hw hB hz1 hk1 hS => ?_)
  have hP := ro_keep hP hk1
  generalize H1 = H at hP hS ⊢
  rcases hw with ⟨rfl, hp_2⟩ | ⟨rfl, hp_2⟩
  · refine lv_if_eq (tgt := 14) hx hb dX2_equal_4 (by decide) (fun c9 => absurd c9 (by decide)) (fun _ => ?_)
    refine lv_iload_n hx hb dX2_equal_7 rfl (lv_at hl 2 rfl) ?_
    refine va_calli (va_runS (As := [.int p1]) (rest := []) ⟨hx, hb, hml, hown, hts⟩ (c_X2_isSlot l dC dI TT H.size p1) (va_cwS 1 hts gX2_equal_X2_isSlot rfl rfl rfl (by decide +kernel) ⟨Nat.le_of_ble_eq_true rfl, Nat.le_of_ble_eq_true rfl⟩) (pr_S (ws := []) (wA := []) (tys := []) (hP.sub [] rfl) (hK.sub [] rfl) vd_nil hst hS (ro_free hS hA)) rfl rfl hl.1 rfl (lv_room (Nat.le_of_ble_eq_true rfl)) dX2_equal_8 ⟨Nat.le_of_ble_eq_true rfl, Nat.le_of_ble_eq_true rfl⟩) hS (fun q _ h => (ro_free hS hA) q h) (ro_free hS hA) (fun r_3 u t H1 locs ht hvm hw hB hz1 hk1 hS => ?_)
    have hP := ro_keep hP hk1
    generalize H1 = H at hP hS ⊢
    rcases hw with ⟨rfl, hp_4⟩ | ⟨rfl, hp_4⟩
    · refine lv_if_ne (tgt := 16) hx hb dX2_equal_11 (by decide) (fun _ => ?_) (fun c9 => absurd c9 (by decide))
      refine lv_aload_n hx hb dX2_equal_16 rfl (lv_at hl 0 rfl) ?_
      refine va_get (D := (dC, dI)) (ci := 2) (v := .ref h1) (C := RX2) (T := TX2) (N := 9) hx hb hts iX2_ hown hK hP 0 rfl rfl 0 (by decide) (hts (.fieldLink RX2 11 "FieldLeaves" "slots" "[LFieldLeaves$Thing;") (by decide +kernel)) (fun _ h9 => h9) rfl dX2_equal_17 ?_
      refine lv_iload_n hx hb dX2_equal_20 rfl (lv_at hl 1 rfl) ?_
      have h_5 : vp_in p0 12 := (vp_in_iff.mpr (by constructor <;> omega))
      refine va_aldq hx hb hK hP 1 0 rfl rfl h_5 dX2_equal_21 ?_
      refine W.eq (g2 := F0 m 22 ls [.null]) rfl ?_
      refine lv_astore_nN (lv' := [(3, .null), (0, .ref h0), (1, .int p0), (2, .int p1)]) hx hb dX2_equal_22 rfl hl (by decide) rfl (fun ls hl => ?_)
      refine lv_aload_n hx hb dX2_equal_23 rfl (lv_at hl 1 rfl) ?_
      refine va_get (D := (dC, dI)) (ci := 2) (v := .ref h1) (C := RX2) (T := TX2) (N := 9) hx hb hts iX2_ hown hK hP 0 rfl rfl 0 (by decide) (hts (.fieldLink RX2 11 "FieldLeaves" "slots" "[LFieldLeaves$Thing;") (by decide +kernel)) (fun _ h9 => h9) rfl dX2_equal_24 ?_
      refine lv_iload_n hx hb dX2_equal_27 rfl (lv_at hl 3 rfl) ?_
      have h_6 : vp_in p1 12 := (vp_in_iff.mpr (by constructor <;> omega))
      refine va_aldq hx hb hK hP 1 0 rfl rfl h_6 dX2_equal_28 ?_
      refine W.eq (g2 := F0 m 29 ls [.null]) rfl ?_
      refine lv_astoreN (lv' := [(4, .null), (3, .null), (0, .ref h0), (1, .int p0), (2, .int p1)]) hx hb dX2_equal_29 hl (by decide) rfl (fun ls hl => ?_)
      refine lv_aload_nN hx hb dX2_equal_31 rfl (lv_at hl 1 rfl) ?_
      refine lv_ifnullN (tgt := 47) hx hb dX2_equal_32 (by decide) ?_
      refine lv_aloadN hx hb dX2_equal_47 (lv_at hl 0 rfl) ?_
      refine lv_ifnullN (tgt := 68) hx hb dX2_equal_49 (by decide) ?_
      refine lv_aload_nN hx hb dX2_equal_68 rfl (lv_at hl 1 rfl) ?_
      refine lv_ifnullN (tgt := 77) hx hb dX2_equal_69 (by decide) ?_
      refine lv_aload_nN hx hb dX2_equal_77 rfl (lv_at hl 1 rfl) ?_
      refine lv_aloadN hx hb dX2_equal_78 (lv_at hl 0 rfl) ?_
      refine W.eq (g2 := F0 m 80 ls (va_rf none :: va_rf none :: [])) rfl ?_
      refine lv_acmp_ne (tgt := 87) hx hb dX2_equal_80 (by decide) (fun c9 => absurd rfl c9) (fun _ => ?_)
      refine lv_iconst (v := 1) hx hb dX2_equal_83 (by decide) ?_
      refine lv_goto (tgt := 88) hx hb dX2_equal_84 (by decide) ?_
      exact W.iret (v := 1) hx hb hr (fun t ht hW => ⟨⟨1, (), rfl, (show 1 = sp_equal p0 p1 from by unfold sp_equal; (repeat' split) <;> first | rfl | (exfalso; omega)), trivial⟩, hS.F ht⟩) hS.2.2 dX2_equal_88
    · refine lv_if_ne (tgt := 16) hx hb dX2_equal_11 (by decide) (fun c9 => absurd c9 (by decide)) (fun _ => ?_)
      refine lv_iconst (v := (-1)) hx hb dX2_equal_14 (by decide) ?_
      exact W.iret (v := (-1)) hx hb hr (fun t ht hW => ⟨⟨(-1), (), rfl, (show (-1) = sp_equal p0 p1 from by unfold sp_equal; (repeat' split) <;> first | rfl | (exfalso; omega)), trivial⟩, hS.F ht⟩) hS.2.2 dX2_equal_15
  · refine lv_if_eq (tgt := 14) hx hb dX2_equal_4 (by decide) (fun _ => ?_) (fun c9 => absurd c9 (by decide))
    refine lv_iconst (v := (-1)) hx hb dX2_equal_14 (by decide) ?_
    exact W.iret (v := (-1)) hx hb hr (fun t ht hW => ⟨⟨(-1), (), rfl, (show (-1) = sp_equal p0 p1 from by unfold sp_equal; (repeat' split) <;> first | rfl | (exfalso; omega)), trivial⟩, hS.F ht⟩) hS.2.2 dX2_equal_15
set_option maxRecDepth 20000 in
theorem in_c_X2_changed_X2 : ∀ w ∈ u_ws RX2 TX2 9, w ∈ wsX2_changed := by decide +kernel
set_option maxRecDepth 100000 in
set_option maxHeartbeats 4000000 in
theorem c_X2_changed (l : Launch) (dC : Nat → ClassId) (dI : Nat → Nat → Nat) (TT : Nat × Nat × Nat) (sz : Nat) (h0 h1 h2 h3 h4 h5 h6 a1 a2 a3 : Nat) (kT : ClassId) (p0 : Int32) (p1 : Int32) (p2 : Int32) : Met l yX2_changed wsX2_changed ({ frames := 1, cells := 0, slots := 0, locals := 20 } : Room) (va_Pc [.ref h0, .int p0, .int p1, .int p2] (pr dC dI [(h0, .inr (2, [.ref h1, .int 0, .ref h2, .ref h3, .ref h4, .ref h5, .int 0, .ref h6, .int 0])), (h1, .inl (kT, 12, .inr (.inr (.inr (.inr (fun _ => none)))))), (h2, .inr (0, [.ref a1, .ref a2, .ref a3, .int 0]))] [(h0, .inr (2, [.ref h1, .int 0, .ref h2, .ref h3, .ref h4, .ref h5, .int 0, .ref h6, .int 0])), (h1, .inl (kT, 12, .inr (.inr (.inr (.inr (fun _ => none)))))), (h2, .inr (0, [.ref a1, .ref a2, .ref a3, .int 0]))] [(kT, .object RX1)] sz TT)) (va_Qi (fun (r : Int32) (u : Unit) => r = sp_changed p0 p1 p2) (fun _ _ => True) (va_A [(h0, .inr (2, [.ref h1, .int 0, .ref h2, .ref h3, .ref h4, .ref h5, .int 0, .ref h6, .int 0])), (h1, .inl (kT, 12, .inr (.inr (.inr (.inr (fun _ => none)))))), (h2, .inr (0, [.ref a1, .ref a2, .ref a3, .int 0]))] sz)) 0 0 (va_A [(h0, .inr (2, [.ref h1, .int 0, .ref h2, .ref h3, .ref h4, .ref h5, .int 0, .ref h6, .int 0])), (h1, .inl (kT, 12, .inr (.inr (.inr (.inr (fun _ => none)))))), (h2, .inr (0, [.ref a1, .ref a2, .ref a3, .int 0]))] sz) := by
  refine Met.ofW (cc := cX2_changed) (maxL := 8) (ret := (some .int)) (by decide) rfl ?_
  intro p e s m args below meth c s₁ B hml hv
  obtain ⟨rfl, hsz, hP, hK, hD0, hst⟩ := hv
  have hx := B.exec
  have hb := B.bytes
  have hr := B.returns
  have hts := atoms_spec (ws := wsX2_changed) B.pre
  have hown : s.vm.findClass RX2 = some m.cls := findClass_of_methodNamed B.named
  have hlocks := B.notSynchronized
  have iX2_ := in_c_X2_changed_X2
  subst hsz
  have hD := hD0.self (sz := s.heap.size)
  generalize hAe : va_A [(h0, .inr (2, [.ref h1, .int 0, .ref h2, .ref h3, .ref h4, .ref h5, .int 0, .ref h6, .int 0])), (h1, .inl (kT, 12, .inr (.inr (.inr (.inr (fun _ => none)))))), (h2, .inr (0, [.ref a1, .ref a2, .ref a3, .int 0]))] s.heap.size = A at hD hst ⊢
  have hA : ∀ q : Nat, s.heap.size ≤ q → A q := fun q h => by rw [← hAe]; exact Or.inr h
  have hS : va_S A s.heap s.heap [] := va_S.rf
  have hl := lv_entry ([.ref h0, .int p0, .int p1, .int p2]) (n := 8) (Nat.le_of_ble_eq_true rfl)
  rw [lg_entry_eq]
  generalize (lg_sl ([.ref h0, .int p0, .int p1, .int p2]) ++ List.replicate (8 - (lg_sl ([.ref h0, .int p0, .int p1, .int p2])).length) Slot.unset).toArray = ls at hl ⊢
  have hl : lv_has ls 8 [(0, .ref h0), (1, .int p0), (2, .int p1), (3, .int p2)] := hl
  have km11_ : Int32.toInt (-11) = -11 := by decide
  have km1_ : Int32.toInt (-1) = -1 := by decide
  have k0_ : Int32.toInt 0 = 0 := by decide
  refine lv_iload_n hx hb dX2_changed_0 rfl (lv_at hl 1 rfl) ?_
  refine va_calli (va_runS (As := [.int p0]) (rest := []) ⟨hx, hb, hml, hown, hts⟩ (c_X2_isSlot l dC dI TT s.heap.size p0) (va_cwS 1 hts gX2_changed_X2_isSlot rfl rfl rfl (by decide +kernel) ⟨Nat.le_of_ble_eq_true rfl, Nat.le_of_ble_eq_true rfl⟩) (pr_S (ws := []) (wA := []) (tys := []) (hP.sub [] rfl) (hK.sub [] rfl) vd_nil hst hS (ro_free hS hA)) rfl rfl hl.1 rfl (lv_room (Nat.le_of_ble_eq_true rfl)) dX2_changed_1 ⟨Nat.le_of_ble_eq_true rfl, Nat.le_of_ble_eq_true rfl⟩) hS (fun q _ h => (ro_free hS hA) q h) (ro_free hS hA) (fun r_1 u t H1 locs ht hvm hw hB hz1 hk1 hS => ?_)
  have hP := ro_keep hP hk1
  generalize H1 = H at hP hS ⊢
  rcases hw with ⟨rfl, hp_2⟩ | ⟨rfl, hp_2⟩
  · refine lv_if_eq (tgt := 18) hx hb dX2_changed_4 (by decide) (fun c9 => absurd c9 (by decide)) (fun _ => ?_)
    refine lv_iload_n hx hb dX2_changed_7 rfl (lv_at hl 2 rfl) ?_
    refine va_calli (va_runS (As := [.int p1]) (rest := []) ⟨hx, hb, hml, hown, hts⟩ (c_X2_isSlot l dC dI TT H.size p1) (va_cwS 1 hts gX2_changed_X2_isSlot rfl rfl rfl (by decide +kernel) ⟨Nat.le_of_ble_eq_true rfl, Nat.le_of_ble_eq_true rfl⟩) (pr_S (ws := []) (wA := []) (tys := []) (hP.sub [] rfl) (hK.sub [] rfl) vd_nil hst hS (ro_free hS hA)) rfl rfl hl.1 rfl (lv_room (Nat.le_of_ble_eq_true rfl)) dX2_changed_8 ⟨Nat.le_of_ble_eq_true rfl, Nat.le_of_ble_eq_true rfl⟩) hS (fun q _ h => (ro_free hS hA) q h) (ro_free hS hA) (fun r_3 u t H1 locs ht hvm hw hB hz1 hk1 hS => ?_)
    have hP := ro_keep hP hk1
    generalize H1 = H at hP hS ⊢
    rcases hw with ⟨rfl, hp_4⟩ | ⟨rfl, hp_4⟩
    · refine lv_if_eq (tgt := 18) hx hb dX2_changed_11 (by decide) (fun c9 => absurd c9 (by decide)) (fun _ => ?_)
      refine lv_iload_n hx hb dX2_changed_14 rfl (lv_at hl 3 rfl) ?_
      refine lv_if_ge (tgt := 20) hx hb dX2_changed_15 (by decide) (fun c_5 => ?_) (fun c_5 => ?_)
      · have c_5 := Int32.le_iff_toInt_le.mp c_5
        refine lv_aload_n hx hb dX2_changed_20 rfl (lv_at hl 0 rfl) ?_
        refine va_get (D := (dC, dI)) (ci := 2) (v := .ref h1) (C := RX2) (T := TX2) (N := 9) hx hb hts iX2_ hown hK hP 0 rfl rfl 0 (by decide) (hts (.fieldLink RX2 11 "FieldLeaves" "slots" "[LFieldLeaves$Thing;") (by decide +kernel)) (fun _ h9 => h9) rfl dX2_changed_21 ?_
        refine lv_iload_n hx hb dX2_changed_24 rfl (lv_at hl 1 rfl) ?_
        have h_6 : vp_in p0 12 := (vp_in_iff.mpr (by constructor <;> omega))
        refine va_aldq hx hb hK hP 1 0 rfl rfl h_6 dX2_changed_25 ?_
        refine W.eq (g2 := F0 m 26 ls [.null]) rfl ?_
        refine lv_astoreN (lv' := [(4, .null), (0, .ref h0), (1, .int p0), (2, .int p1), (3, .int p2)]) hx hb dX2_changed_26 hl (by decide) rfl (fun ls hl => ?_)
        refine lv_aload_n hx hb dX2_changed_28 rfl (lv_at hl 1 rfl) ?_
        refine va_get (D := (dC, dI)) (ci := 2) (v := .ref h1) (C := RX2) (T := TX2) (N := 9) hx hb hts iX2_ hown hK hP 0 rfl rfl 0 (by decide) (hts (.fieldLink RX2 11 "FieldLeaves" "slots" "[LFieldLeaves$Thing;") (by decide +kernel)) (fun _ h9 => h9) rfl dX2_changed_29 ?_
        refine lv_iload_n hx hb dX2_changed_32 rfl (lv_at hl 3 rfl) ?_
        have h_7 : vp_in p1 12 := (vp_in_iff.mpr (by constructor <;> omega))
        refine va_aldq hx hb hK hP 1 0 rfl rfl h_7 dX2_changed_33 ?_
        refine W.eq (g2 := F0 m 34 ls [.null]) rfl ?_
        refine lv_astoreN (lv' := [(5, .null), (4, .null), (0, .ref h0), (1, .int p0), (2, .int p1), (3, .int p2)]) hx hb dX2_changed_34 hl (by decide) rfl (fun ls hl => ?_)
        refine lv_aloadN hx hb dX2_changed_36 (lv_at hl 1 rfl) ?_
        refine lv_ifnullN (tgt := 46) hx hb dX2_changed_38 (by decide) ?_
        refine lv_bipush (v := (-11)) hx hb dX2_changed_46 (by decide) ?_
        exact W.iret (v := (-11)) hx hb hr (fun t ht hW => ⟨⟨(-11), (), rfl, (show (-11) = sp_changed p0 p1 p2 from by unfold sp_changed; (repeat' split) <;> first | rfl | (exfalso; omega)), trivial⟩, hS.F ht⟩) hS.2.2 dX2_changed_48
      · have c_5 := mt Int32.le_iff_toInt_le.mpr c_5
        refine lv_iconst (v := (-1)) hx hb dX2_changed_18 (by decide) ?_
        exact W.iret (v := (-1)) hx hb hr (fun t ht hW => ⟨⟨(-1), (), rfl, (show (-1) = sp_changed p0 p1 p2 from by unfold sp_changed; (repeat' split) <;> first | rfl | (exfalso; omega)), trivial⟩, hS.F ht⟩) hS.2.2 dX2_changed_19
    · refine lv_if_eq (tgt := 18) hx hb dX2_changed_11 (by decide) (fun _ => ?_) (fun c9 => absurd c9 (by decide))
      refine lv_iconst (v := (-1)) hx hb dX2_changed_18 (by decide) ?_
      exact W.iret (v := (-1)) hx hb hr (fun t ht hW => ⟨⟨(-1), (), rfl, (show (-1) = sp_changed p0 p1 p2 from by unfold sp_changed; (repeat' split) <;> first | rfl | (exfalso; omega)), trivial⟩, hS.F ht⟩) hS.2.2 dX2_changed_19
  · refine lv_if_eq (tgt := 18) hx hb dX2_changed_4 (by decide) (fun _ => ?_) (fun c9 => absurd c9 (by decide))
    refine lv_iconst (v := (-1)) hx hb dX2_changed_18 (by decide) ?_
    exact W.iret (v := (-1)) hx hb hr (fun t ht hW => ⟨⟨(-1), (), rfl, (show (-1) = sp_changed p0 p1 p2 from by unfold sp_changed; (repeat' split) <;> first | rfl | (exfalso; omega)), trivial⟩, hS.F ht⟩) hS.2.2 dX2_changed_19
