set_option maxRecDepth 20000 in
theorem in_c_X2_clear_X2 : ∀ w ∈ u_ws RX2 TX2 9, w ∈ wsX2_clear := by decide +kernel
set_option maxRecDepth 100000 in
set_option maxHeartbeats 4000000 in
theorem c_X2_clear (l : Launch) (dC : Nat → ClassId) (dI : Nat → Nat → Nat) (TT : Nat × Nat × Nat) (sz : Nat) (h0 h1 h2 h3 h4 h5 h6 a1 a2 a3 : Nat) (kT : ClassId) (p0 : Int32) : Met l yX2_clear wsX2_clear ({ frames := 1, cells := 0, slots := 0, locals := 20 } : Room) (va_Pc [.ref h0, .int p0] (pr dC dI [(h0, .inr (2, [.ref h1, .int 0, .ref h2, .ref h3, .ref h4, .ref h5, .int 0, .ref h6, .int 0])), (h1, .inl (kT, 12, .inr (.inr (.inr (.inr (fun _ => none)))))), (h2, .inr (0, [.ref a1, .ref a2, .ref a3, .int 0]))] [(h0, .inr (2, [.ref h1, .int 0, .ref h2, .ref h3, .ref h4, .ref h5, .int 0, .ref h6, .int 0])), (h1, .inl (kT, 12, .inr (.inr (.inr (.inr (fun _ => none)))))), (h2, .inr (0, [.ref a1, .ref a2, .ref a3, .int 0]))] [(kT, .object RX1)] sz TT)) (va_Qi (fun (r : Int32) (u : Unit) => r = sp_clear p0) (fun _ _ => True) (va_A [(h0, .inr (2, [.ref h1, .int 0, .ref h2, .ref h3, .ref h4, .ref h5, .int 0, .ref h6, .int 0])), (h1, .inl (kT, 12, .inr (.inr (.inr (.inr (fun _ => none)))))), (h2, .inr (0, [.ref a1, .ref a2, .ref a3, .int 0]))] sz)) 0 0 (va_A [(h0, .inr (2, [.ref h1, .int 0, .ref h2, .ref h3, .ref h4, .ref h5, .int 0, .ref h6, .int 0])), (h1, .inl (kT, 12, .inr (.inr (.inr (.inr (fun _ => none)))))), (h2, .inr (0, [.ref a1, .ref a2, .ref a3, .int 0]))] sz) := by
  refine Met.ofW (cc := cX2_clear) (maxL := 3) (ret := (some .int)) (by decide) rfl ?_
  intro p e s m args below meth c s₁ B hml hv
  obtain ⟨rfl, hsz, hP, hK, hD0, hst⟩ := hv
  have hx := B.exec
  have hb := B.bytes
  have hr := B.returns
  have hts := atoms_spec (ws := wsX2_clear) B.pre
  have hown : s.vm.findClass RX2 = some m.cls := findClass_of_methodNamed B.named
  have hlocks := B.notSynchronized
  have iX2_ := in_c_X2_clear_X2
  subst hsz
  have hD := hD0.self (sz := s.heap.size)
  generalize hAe : va_A [(h0, .inr (2, [.ref h1, .int 0, .ref h2, .ref h3, .ref h4, .ref h5, .int 0, .ref h6, .int 0])), (h1, .inl (kT, 12, .inr (.inr (.inr (.inr (fun _ => none)))))), (h2, .inr (0, [.ref a1, .ref a2, .ref a3, .int 0]))] s.heap.size = A at hD hst ⊢
  have hA : ∀ q : Nat, s.heap.size ≤ q → A q := fun q h => by rw [← hAe]; exact Or.inr h
  have hS : va_S A s.heap s.heap [] := va_S.rf
  have hl := lv_entry ([.ref h0, .int p0]) (n := 3) (Nat.le_of_ble_eq_true rfl)
  rw [lg_entry_eq]
  generalize (lg_sl ([.ref h0, .int p0]) ++ List.replicate (3 - (lg_sl ([.ref h0, .int p0])).length) Slot.unset).toArray = ls at hl ⊢
  have hl : lv_has ls 3 [(0, .ref h0), (1, .int p0)] := hl
  have km1_ : Int32.toInt (-1) = -1 := by decide
  have k0_ : Int32.toInt 0 = 0 := by decide
  refine lv_iload_n hx hb dX2_clear_0 rfl (lv_at hl 1 rfl) ?_
  refine va_calli (va_runS (As := [.int p0]) (rest := []) ⟨hx, hb, hml, hown, hts⟩ (c_X2_isSlot l dC dI TT s.heap.size p0) (va_cwS 1 hts gX2_clear_X2_isSlot rfl rfl rfl (by decide +kernel) ⟨Nat.le_of_ble_eq_true rfl, Nat.le_of_ble_eq_true rfl⟩) (pr_S (ws := []) (wA := []) (tys := []) (hP.sub [] rfl) (hK.sub [] rfl) vd_nil hst hS (ro_free hS hA)) rfl rfl hl.1 rfl (lv_room (Nat.le_of_ble_eq_true rfl)) dX2_clear_1 ⟨Nat.le_of_ble_eq_true rfl, Nat.le_of_ble_eq_true rfl⟩) hS (fun q _ h => (ro_free hS hA) q h) (ro_free hS hA) (fun r_1 u t H1 locs ht hvm hw hB hz1 hk1 hS => ?_)
  have hP := ro_keep hP hk1
  generalize H1 = H at hP hS ⊢
  rcases hw with ⟨rfl, hp_2⟩ | ⟨rfl, hp_2⟩
  · refine lv_if_ne (tgt := 9) hx hb dX2_clear_4 (by decide) (fun _ => ?_) (fun c9 => absurd c9 (by decide))
    refine lv_aload_n hx hb dX2_clear_9 rfl (lv_at hl 0 rfl) ?_
    refine va_get (D := (dC, dI)) (ci := 2) (v := .ref h1) (C := RX2) (T := TX2) (N := 9) hx hb hts iX2_ hown hK hP 0 rfl rfl 0 (by decide) (hts (.fieldLink RX2 11 "FieldLeaves" "slots" "[LFieldLeaves$Thing;") (by decide +kernel)) (fun _ h9 => h9) rfl dX2_clear_10 ?_
    refine lv_iload_n hx hb dX2_clear_13 rfl (lv_at hl 1 rfl) ?_
    have h_3 : vp_in p0 12 := (vp_in_iff.mpr (by constructor <;> omega))
    refine va_aldq hx hb hK hP 1 0 rfl rfl h_3 dX2_clear_14 ?_
    refine W.eq (g2 := F0 m 15 ls [.null]) rfl ?_
    refine lv_ifnonnullN hx hb dX2_clear_15 ?_
    refine lv_iconst (v := 0) hx hb dX2_clear_18 (by decide) ?_
    refine lv_goto (tgt := 23) hx hb dX2_clear_19 (by decide) ?_
    refine lv_istore_n (lv' := [(2, .int 0), (0, .ref h0), (1, .int p0)]) hx hb dX2_clear_23 rfl hl (by decide) rfl (fun ls hl => ?_)
    refine lv_aload_n hx hb dX2_clear_24 rfl (lv_at hl 1 rfl) ?_
    refine va_get (D := (dC, dI)) (ci := 2) (v := .ref h1) (C := RX2) (T := TX2) (N := 9) hx hb hts iX2_ hown hK hP 0 rfl rfl 0 (by decide) (hts (.fieldLink RX2 11 "FieldLeaves" "slots" "[LFieldLeaves$Thing;") (by decide +kernel)) (fun _ h9 => h9) rfl dX2_clear_25 ?_
    refine lv_iload_n hx hb dX2_clear_28 rfl (lv_at hl 2 rfl) ?_
    refine lv_null hx hb dX2_clear_29 ?_
    have h_4 : vp_in p0 12 := (vp_in_iff.mpr (by constructor <;> omega))
    refine va_astqN hx hb hK hP hD hS 1 0 rfl rfl h_4 dX2_clear_30 (fun H locs hP hD hS => ?_)
    have hP : va_P (dC, dI) vwCl [(h0, .inr (2, [.ref h1, .int 0, .ref h2, .ref h3, .ref h4, .ref h5, .int 0, .ref h6, .int 0])), (h1, .inl (kT, 12, .inr (.inr (.inr (.inr (va_up (fun _ => none) (Int32.toNatClampNeg p0) none)))))), (h2, .inr (0, [.ref a1, .ref a2, .ref a3, .int 0]))] H := hP
    have hD : va_D A [(h0, .inr (2, [.ref h1, .int 0, .ref h2, .ref h3, .ref h4, .ref h5, .int 0, .ref h6, .int 0])), (h1, .inl (kT, 12, .inr (.inr (.inr (.inr (va_up (fun _ => none) (Int32.toNatClampNeg p0) none)))))), (h2, .inr (0, [.ref a1, .ref a2, .ref a3, .int 0]))] := hD
    refine lv_iload_n hx hb dX2_clear_31 rfl (lv_at hl 0 rfl) ?_
    exact W.iret (v := 0) hx hb hr (fun t ht hW => ⟨⟨0, (), rfl, (show 0 = sp_clear p0 from by unfold sp_clear; (repeat' split) <;> first | rfl | (exfalso; omega)), trivial⟩, hS.F ht⟩) hS.2.2 dX2_clear_32
  · refine lv_if_ne (tgt := 9) hx hb dX2_clear_4 (by decide) (fun c9 => absurd c9 (by decide)) (fun _ => ?_)
    refine lv_iconst (v := (-1)) hx hb dX2_clear_7 (by decide) ?_
    exact W.iret (v := (-1)) hx hb hr (fun t ht hW => ⟨⟨(-1), (), rfl, (show (-1) = sp_clear p0 from by unfold sp_clear; (repeat' split) <;> first | rfl | (exfalso; omega)), trivial⟩, hS.F ht⟩) hS.2.2 dX2_clear_8
set_option maxRecDepth 20000 in
theorem in_c_X2_share_X2 : ∀ w ∈ u_ws RX2 TX2 9, w ∈ wsX2_share := by decide +kernel
set_option maxRecDepth 100000 in
set_option maxHeartbeats 4000000 in
theorem c_X2_share (l : Launch) (dC : Nat → ClassId) (dI : Nat → Nat → Nat) (TT : Nat × Nat × Nat) (sz : Nat) (h0 h1 h2 h3 h4 h5 h6 a1 a2 a3 : Nat) (kT : ClassId) (p0 : Int32) (p1 : Int32) : Met l yX2_share wsX2_share ({ frames := 1, cells := 0, slots := 0, locals := 20 } : Room) (va_Pc [.ref h0, .int p0, .int p1] (pr dC dI [(h0, .inr (2, [.ref h1, .int 0, .ref h2, .ref h3, .ref h4, .ref h5, .int 0, .ref h6, .int 0])), (h1, .inl (kT, 12, .inr (.inr (.inr (.inr (fun _ => none)))))), (h2, .inr (0, [.ref a1, .ref a2, .ref a3, .int 0]))] [(h0, .inr (2, [.ref h1, .int 0, .ref h2, .ref h3, .ref h4, .ref h5, .int 0, .ref h6, .int 0])), (h1, .inl (kT, 12, .inr (.inr (.inr (.inr (fun _ => none)))))), (h2, .inr (0, [.ref a1, .ref a2, .ref a3, .int 0]))] [(kT, .object RX1)] sz TT)) (va_Qi (fun (r : Int32) (u : Unit) => r = sp_share p0 p1) (fun _ _ => True) (va_A [(h0, .inr (2, [.ref h1, .int 0, .ref h2, .ref h3, .ref h4, .ref h5, .int 0, .ref h6, .int 0])), (h1, .inl (kT, 12, .inr (.inr (.inr (.inr (fun _ => none)))))), (h2, .inr (0, [.ref a1, .ref a2, .ref a3, .int 0]))] sz)) 0 0 (va_A [(h0, .inr (2, [.ref h1, .int 0, .ref h2, .ref h3, .ref h4, .ref h5, .int 0, .ref h6, .int 0])), (h1, .inl (kT, 12, .inr (.inr (.inr (.inr (fun _ => none)))))), (h2, .inr (0, [.ref a1, .ref a2, .ref a3, .int 0]))] sz) := by
  refine Met.ofW (cc := cX2_share) (maxL := 3) (ret := (some .int)) (by decide) rfl ?_
  intro p e s m args below meth c s₁ B hml hv
  obtain ⟨rfl, hsz, hP, hK, hD0, hst⟩ := hv
  have hx := B.exec
  have hb := B.bytes
  have hr := B.returns
  have hts := atoms_spec (ws := wsX2_share) B.pre
  have hown : s.vm.findClass RX2 = some m.cls := findClass_of_methodNamed B.named
  have hlocks := B.notSynchronized
  have iX2_ := in_c_X2_share_X2
  subst hsz
  have hD := hD0.self (sz := s.heap.size)
  generalize hAe : va_A [(h0, .inr (2, [.ref h1, .int 0, .ref h2, .ref h3, .ref h4, .ref h5, .int 0, .ref h6, .int 0])), (h1, .inl (kT, 12, .inr (.inr (.inr (.inr (fun _ => none)))))), (h2, .inr (0, [.ref a1, .ref a2, .ref a3, .int 0]))] s.heap.size = A at hD hst ⊢
  have hA : ∀ q : Nat, s.heap.size ≤ q → A q := fun q h => by rw [← hAe]; exact Or.inr h
  have hS : va_S A s.heap s.heap [] := va_S.rf
  have hl := lv_entry ([.ref h0, .int p0, .int p1]) (n := 3) (Nat.le_of_ble_eq_true rfl)
  rw [lg_entry_eq]
  generalize (lg_sl ([.ref h0, .int p0, .int p1]) ++ List.replicate (3 - (lg_sl ([.ref h0, .int p0, .int p1])).length) Slot.unset).toArray = ls at hl ⊢
  have hl : lv_has ls 3 [(0, .ref h0), (1, .int p0), (2, .int p1)] := hl
  have km1_ : Int32.toInt (-1) = -1 := by decide
  have k1_ : Int32.toInt 1 = 1 := by decide
  refine lv_iload_n hx hb dX2_share_0 rfl (lv_at hl 1 rfl) ?_
  refine va_calli (va_runS (As := [.int p0]) (rest := []) ⟨hx, hb, hml, hown, hts⟩ (c_X2_isSlot l dC dI TT s.heap.size p0) (va_cwS 1 hts gX2_share_X2_isSlot rfl rfl rfl (by decide +kernel) ⟨Nat.le_of_ble_eq_true rfl, Nat.le_of_ble_eq_true rfl⟩) (pr_S (ws := []) (wA := []) (tys := []) (hP.sub [] rfl) (hK.sub [] rfl) vd_nil hst hS (ro_free hS hA)) rfl rfl hl.1 rfl (lv_room (Nat.le_of_ble_eq_true rfl)) dX2_share_1 ⟨Nat.le_of_ble_eq_true rfl, Nat.le_of_ble_eq_true rfl⟩) hS (fun q _ h => (ro_free hS hA) q h) (ro_free hS hA) (fun r_1 u t H1 locs ht hvm hw hB hz1 hk1 hS => ?_)
  have hP := ro_keep hP hk1
  generalize H1 = H at hP hS ⊢
  rcases hw with ⟨rfl, hp_2⟩ | ⟨rfl, hp_2⟩
  · refine lv_if_eq (tgt := 14) hx hb dX2_share_4 (by decide) (fun c9 => absurd c9 (by decide)) (fun _ => ?_)
    refine lv_iload_n hx hb dX2_share_7 rfl (lv_at hl 2 rfl) ?_
    refine va_calli (va_runS (As := [.int p1]) (rest := []) ⟨hx, hb, hml, hown, hts⟩ (c_X2_isSlot l dC dI TT H.size p1) (va_cwS 1 hts gX2_share_X2_isSlot rfl rfl rfl (by decide +kernel) ⟨Nat.le_of_ble_eq_true rfl, Nat.le_of_ble_eq_true rfl⟩) (pr_S (ws := []) (wA := []) (tys := []) (hP.sub [] rfl) (hK.sub [] rfl) vd_nil hst hS (ro_free hS hA)) rfl rfl hl.1 rfl (lv_room (Nat.le_of_ble_eq_true rfl)) dX2_share_8 ⟨Nat.le_of_ble_eq_true rfl, Nat.le_of_ble_eq_true rfl⟩) hS (fun q _ h => (ro_free hS hA) q h) (ro_free hS hA) (fun r_3 u t H1 locs ht hvm hw hB hz1 hk1 hS => ?_)
    have hP := ro_keep hP hk1
    generalize H1 = H at hP hS ⊢
    rcases hw with ⟨rfl, hp_4⟩ | ⟨rfl, hp_4⟩
    · refine lv_if_ne (tgt := 16) hx hb dX2_share_11 (by decide) (fun _ => ?_) (fun c9 => absurd c9 (by decide))
      refine lv_aload_n hx hb dX2_share_16 rfl (lv_at hl 0 rfl) ?_
      refine va_get (D := (dC, dI)) (ci := 2) (v := .ref h1) (C := RX2) (T := TX2) (N := 9) hx hb hts iX2_ hown hK hP 0 rfl rfl 0 (by decide) (hts (.fieldLink RX2 11 "FieldLeaves" "slots" "[LFieldLeaves$Thing;") (by decide +kernel)) (fun _ h9 => h9) rfl dX2_share_17 ?_
      refine lv_iload_n hx hb dX2_share_20 rfl (lv_at hl 2 rfl) ?_
      refine lv_aload_n hx hb dX2_share_21 rfl (lv_at hl 0 rfl) ?_
      refine va_get (D := (dC, dI)) (ci := 2) (v := .ref h1) (C := RX2) (T := TX2) (N := 9) hx hb hts iX2_ hown hK hP 0 rfl rfl 0 (by decide) (hts (.fieldLink RX2 11 "FieldLeaves" "slots" "[LFieldLeaves$Thing;") (by decide +kernel)) (fun _ h9 => h9) rfl dX2_share_22 ?_
      refine lv_iload_n hx hb dX2_share_25 rfl (lv_at hl 1 rfl) ?_
      have h_5 : vp_in p0 12 := (vp_in_iff.mpr (by constructor <;> omega))
      refine va_aldq hx hb hK hP 1 0 rfl rfl h_5 dX2_share_26 ?_
      refine W.eq (g2 := F0 m 27 ls [.null, .int p1, .ref h1]) rfl ?_
      have h_6 : vp_in p1 12 := (vp_in_iff.mpr (by constructor <;> omega))
      refine va_astqN hx hb hK hP hD hS 1 0 rfl rfl h_6 dX2_share_27 (fun H locs hP hD hS => ?_)
      have hP : va_P (dC, dI) vwCl [(h0, .inr (2, [.ref h1, .int 0, .ref h2, .ref h3, .ref h4, .ref h5, .int 0, .ref h6, .int 0])), (h1, .inl (kT, 12, .inr (.inr (.inr (.inr (va_up (fun _ => none) (Int32.toNatClampNeg p1) none)))))), (h2, .inr (0, [.ref a1, .ref a2, .ref a3, .int 0]))] H := hP
      have hD : va_D A [(h0, .inr (2, [.ref h1, .int 0, .ref h2, .ref h3, .ref h4, .ref h5, .int 0, .ref h6, .int 0])), (h1, .inl (kT, 12, .inr (.inr (.inr (.inr (va_up (fun _ => none) (Int32.toNatClampNeg p1) none)))))), (h2, .inr (0, [.ref a1, .ref a2, .ref a3, .int 0]))] := hD
      refine lv_iconst (v := 1) hx hb dX2_share_28 (by decide) ?_
      exact W.iret (v := 1) hx hb hr (fun t ht hW => ⟨⟨1, (), rfl, (show 1 = sp_share p0 p1 from by unfold sp_share; (repeat' split) <;> first | rfl | (exfalso; omega)), trivial⟩, hS.F ht⟩) hS.2.2 dX2_share_29
    · refine lv_if_ne (tgt := 16) hx hb dX2_share_11 (by decide) (fun c9 => absurd c9 (by decide)) (fun _ => ?_)
      refine lv_iconst (v := (-1)) hx hb dX2_share_14 (by decide) ?_
      exact W.iret (v := (-1)) hx hb hr (fun t ht hW => ⟨⟨(-1), (), rfl, (show (-1) = sp_share p0 p1 from by unfold sp_share; (repeat' split) <;> first | rfl | (exfalso; omega)), trivial⟩, hS.F ht⟩) hS.2.2 dX2_share_15
  · refine lv_if_eq (tgt := 14) hx hb dX2_share_4 (by decide) (fun _ => ?_) (fun c9 => absurd c9 (by decide))
    refine lv_iconst (v := (-1)) hx hb dX2_share_14 (by decide) ?_
    exact W.iret (v := (-1)) hx hb hr (fun t ht hW => ⟨⟨(-1), (), rfl, (show (-1) = sp_share p0 p1 from by unfold sp_share; (repeat' split) <;> first | rfl | (exfalso; omega)), trivial⟩, hS.F ht⟩) hS.2.2 dX2_share_15
set_option maxRecDepth 20000 in
theorem in_c_X2_same_X2 : ∀ w ∈ u_ws RX2 TX2 9, w ∈ wsX2_same := by decide +kernel
set_option maxRecDepth 100000 in
set_option maxHeartbeats 4000000 in
theorem c_X2_same (l : Launch) (dC : Nat → ClassId) (dI : Nat → Nat → Nat) (TT : Nat × Nat × Nat) (sz : Nat) (h0 h1 h2 h3 h4 h5 h6 a1 a2 a3 : Nat) (kT : ClassId) (p0 : Int32) (p1 : Int32) : Met l yX2_same wsX2_same ({ frames := 1, cells := 0, slots := 0, locals := 20 } : Room) (va_Pc [.ref h0, .int p0, .int p1] (pr dC dI [(h0, .inr (2, [.ref h1, .int 0, .ref h2, .ref h3, .ref h4, .ref h5, .int 0, .ref h6, .int 0])), (h1, .inl (kT, 12, .inr (.inr (.inr (.inr (fun _ => none)))))), (h2, .inr (0, [.ref a1, .ref a2, .ref a3, .int 0]))] [(h0, .inr (2, [.ref h1, .int 0, .ref h2, .ref h3, .ref h4, .ref h5, .int 0, .ref h6, .int 0])), (h1, .inl (kT, 12, .inr (.inr (.inr (.inr (fun _ => none)))))), (h2, .inr (0, [.ref a1, .ref a2, .ref a3, .int 0]))] [(kT, .object RX1)] sz TT)) (va_Qi (fun (r : Int32) (u : Unit) => r = sp_same p0 p1) (fun _ _ => True) (va_A [(h0, .inr (2, [.ref h1, .int 0, .ref h2, .ref h3, .ref h4, .ref h5, .int 0, .ref h6, .int 0])), (h1, .inl (kT, 12, .inr (.inr (.inr (.inr (fun _ => none)))))), (h2, .inr (0, [.ref a1, .ref a2, .ref a3, .int 0]))] sz)) 0 0 (va_A [(h0, .inr (2, [.ref h1, .int 0, .ref h2, .ref h3, .ref h4, .ref h5, .int 0, .ref h6, .int 0])), (h1, .inl (kT, 12, .inr (.inr (.inr (.inr (fun _ => none)))))), (h2, .inr (0, [.ref a1, .ref a2, .ref a3, .int 0]))] sz) := by
  refine Met.ofW (cc := cX2_same) (maxL := 3) (ret := (some .int)) (by decide) rfl ?_
  intro p e s m args below meth c s₁ B hml hv
  obtain ⟨rfl, hsz, hP, hK, hD0, hst⟩ := hv
  have hx := B.exec
  have hb := B.bytes
  have hr := B.returns
  have hts := atoms_spec (ws := wsX2_same) B.pre
  have hown : s.vm.findClass RX2 = some m.cls := findClass_of_methodNamed B.named
  have hlocks := B.notSynchronized
  have iX2_ := in_c_X2_same_X2
  subst hsz
  have hD := hD0.self (sz := s.heap.size)
  generalize hAe : va_A [(h0, .inr (2, [.ref h1, .int 0, .ref h2, .ref h3, .ref h4, .ref h5, .int 0, .ref h6, .int 0])), (h1, .inl (kT, 12, .inr (.inr (.inr (.inr (fun _ => none)))))), (h2, .inr (0, [.ref a1, .ref a2, .ref a3, .int 0]))] s.heap.size = A at hD hst ⊢
  have hA : ∀ q : Nat, s.heap.size ≤ q → A q := fun q h => by rw [← hAe]; exact Or.inr h
  have hS : va_S A s.heap s.heap [] := va_S.rf
  have hl := lv_entry ([.ref h0, .int p0, .int p1]) (n := 3) (Nat.le_of_ble_eq_true rfl)
  rw [lg_entry_eq]
  generalize (lg_sl ([.ref h0, .int p0, .int p1]) ++ List.replicate (3 - (lg_sl ([.ref h0, .int p0, .int p1])).length) Slot.unset).toArray = ls at hl ⊢
  have hl : lv_has ls 3 [(0, .ref h0), (1, .int p0), (2, .int p1)] := hl
  have km1_ : Int32.toInt (-1) = -1 := by decide
  have k1_ : Int32.toInt 1 = 1 := by decide
  refine lv_iload_n hx hb dX2_same_0 rfl (lv_at hl 1 rfl) ?_
  refine va_calli (va_runS (As := [.int p0]) (rest := []) ⟨hx, hb, hml, hown, hts⟩ (c_X2_isSlot l dC dI TT s.heap.size p0) (va_cwS 1 hts gX2_same_X2_isSlot rfl rfl rfl (by decide +kernel) ⟨Nat.le_of_ble_eq_true rfl, Nat.le_of_ble_eq_true rfl⟩) (pr_S (ws := []) (wA := []) (tys := []) (hP.sub [] rfl) (hK.sub [] rfl) vd_nil hst hS (ro_free hS hA)) rfl rfl hl.1 rfl (lv_room (Nat.le_of_ble_eq_true rfl)) dX2_same_1 ⟨Nat.le_of_ble_eq_true rfl, Nat.le_of_ble_eq_true rfl⟩) hS (fun q _ h => (ro_free hS hA) q h) (ro_free hS hA) (fun r_1 u t H1 locs ht hvm hw hB hz1 hk1 hS => ?_)
  have hP := ro_keep hP hk1
  generalize H1 = H at hP hS ⊢
  rcases hw with ⟨rfl, hp_2⟩ | ⟨rfl, hp_2⟩
  · refine lv_if_eq (tgt := 14) hx hb dX2_same_4 (by decide) (fun c9 => absurd c9 (by decide)) (fun _ => ?_)
    refine lv_iload_n hx hb dX2_same_7 rfl (lv_at hl 2 rfl) ?_
    refine va_calli (va_runS (As := [.int p1]) (rest := []) ⟨hx, hb, hml, hown, hts⟩ (c_X2_isSlot l dC dI TT H.size p1) (va_cwS 1 hts gX2_same_X2_isSlot rfl rfl rfl (by decide +kernel) ⟨Nat.le_of_ble_eq_true rfl, Nat.le_of_ble_eq_true rfl⟩) (pr_S (ws := []) (wA := []) (tys := []) (hP.sub [] rfl) (hK.sub [] rfl) vd_nil hst hS (ro_free hS hA)) rfl rfl hl.1 rfl (lv_room (Nat.le_of_ble_eq_true rfl)) dX2_same_8 ⟨Nat.le_of_ble_eq_true rfl, Nat.le_of_ble_eq_true rfl⟩) hS (fun q _ h => (ro_free hS hA) q h) (ro_free hS hA) (fun r_3 u t H1 locs ht hvm hw hB hz1 hk1 hS => ?_)
    have hP := ro_keep hP hk1
    generalize H1 = H at hP hS ⊢
    rcases hw with ⟨rfl, hp_4⟩ | ⟨rfl, hp_4⟩
    · refine lv_if_ne (tgt := 16) hx hb dX2_same_11 (by decide) (fun _ => ?_) (fun c9 => absurd c9 (by decide))
      refine lv_aload_n hx hb dX2_same_16 rfl (lv_at hl 0 rfl) ?_
      refine va_get (D := (dC, dI)) (ci := 2) (v := .ref h1) (C := RX2) (T := TX2) (N := 9) hx hb hts iX2_ hown hK hP 0 rfl rfl 0 (by decide) (hts (.fieldLink RX2 11 "FieldLeaves" "slots" "[LFieldLeaves$Thing;") (by decide +kernel)) (fun _ h9 => h9) rfl dX2_same_17 ?_
      refine lv_iload_n hx hb dX2_same_20 rfl (lv_at hl 1 rfl) ?_
      have h_5 : vp_in p0 12 := (vp_in_iff.mpr (by constructor <;> omega))
      refine va_aldq hx hb hK hP 1 0 rfl rfl h_5 dX2_same_21 ?_
      refine W.eq (g2 := F0 m 22 ls [.null]) rfl ?_
      refine lv_aload_n hx hb dX2_same_22 rfl (lv_at hl 0 rfl) ?_
      refine va_get (D := (dC, dI)) (ci := 2) (v := .ref h1) (C := RX2) (T := TX2) (N := 9) hx hb hts iX2_ hown hK hP 0 rfl rfl 0 (by decide) (hts (.fieldLink RX2 11 "FieldLeaves" "slots" "[LFieldLeaves$Thing;") (by decide +kernel)) (fun _ h9 => h9) rfl dX2_same_23 ?_
      refine lv_iload_n hx hb dX2_same_26 rfl (lv_at hl 2 rfl) ?_
      have h_6 : vp_in p1 12 := (vp_in_iff.mpr (by constructor <;> omega))
      refine va_aldq hx hb hK hP 1 0 rfl rfl h_6 dX2_same_27 ?_
      refine W.eq (g2 := F0 m 28 ls [.null, .null]) rfl ?_
      refine W.eq (g2 := F0 m 28 ls (va_rf none :: va_rf none :: [])) rfl ?_
      refine lv_acmp_ne (tgt := 35) hx hb dX2_same_28 (by decide) (fun c9 => absurd rfl c9) (fun _ => ?_)
      refine lv_iconst (v := 1) hx hb dX2_same_31 (by decide) ?_
      refine lv_goto (tgt := 36) hx hb dX2_same_32 (by decide) ?_
      exact W.iret (v := 1) hx hb hr (fun t ht hW => ⟨⟨1, (), rfl, (show 1 = sp_same p0 p1 from by unfold sp_same; (repeat' split) <;> first | rfl | (exfalso; omega)), trivial⟩, hS.F ht⟩) hS.2.2 dX2_same_36
    · refine lv_if_ne (tgt := 16) hx hb dX2_same_11 (by decide) (fun c9 => absurd c9 (by decide)) (fun _ => ?_)
      refine lv_iconst (v := (-1)) hx hb dX2_same_14 (by decide) ?_
      exact W.iret (v := (-1)) hx hb hr (fun t ht hW => ⟨⟨(-1), (), rfl, (show (-1) = sp_same p0 p1 from by unfold sp_same; (repeat' split) <;> first | rfl | (exfalso; omega)), trivial⟩, hS.F ht⟩) hS.2.2 dX2_same_15
  · refine lv_if_eq (tgt := 14) hx hb dX2_same_4 (by decide) (fun _ => ?_) (fun c9 => absurd c9 (by decide))
    refine lv_iconst (v := (-1)) hx hb dX2_same_14 (by decide) ?_
    exact W.iret (v := (-1)) hx hb hr (fun t ht hW => ⟨⟨(-1), (), rfl, (show (-1) = sp_same p0 p1 from by unfold sp_same; (repeat' split) <;> first | rfl | (exfalso; omega)), trivial⟩, hS.F ht⟩) hS.2.2 dX2_same_15
set_option maxRecDepth 20000 in
theorem in_c_X2_cls_X2 : ∀ w ∈ u_ws RX2 TX2 9, w ∈ wsX2_cls := by decide +kernel
set_option maxRecDepth 100000 in
set_option maxHeartbeats 4000000 in
theorem c_X2_cls (l : Launch) (dC : Nat → ClassId) (dI : Nat → Nat → Nat) (TT : Nat × Nat × Nat) (sz : Nat) (h0 h1 h2 h3 h4 h5 h6 a1 a2 a3 : Nat) (kT : ClassId) (p0 : Int32) : Met l yX2_cls wsX2_cls ({ frames := 1, cells := 0, slots := 0, locals := 20 } : Room) (va_Pc [.ref h0, .int p0] (pr dC dI [(h0, .inr (2, [.ref h1, .int 0, .ref h2, .ref h3, .ref h4, .ref h5, .int 0, .ref h6, .int 0])), (h1, .inl (kT, 12, .inr (.inr (.inr (.inr (fun _ => none)))))), (h2, .inr (0, [.ref a1, .ref a2, .ref a3, .int 0]))] [(h0, .inr (2, [.ref h1, .int 0, .ref h2, .ref h3, .ref h4, .ref h5, .int 0, .ref h6, .int 0])), (h1, .inl (kT, 12, .inr (.inr (.inr (.inr (fun _ => none)))))), (h2, .inr (0, [.ref a1, .ref a2, .ref a3, .int 0]))] [(kT, .object RX1)] sz TT)) (va_Qi (fun (r : Int32) (u : Unit) => r = sp_cls p0) (fun _ _ => True) (va_A [(h0, .inr (2, [.ref h1, .int 0, .ref h2, .ref h3, .ref h4, .ref h5, .int 0, .ref h6, .int 0])), (h1, .inl (kT, 12, .inr (.inr (.inr (.inr (fun _ => none)))))), (h2, .inr (0, [.ref a1, .ref a2, .ref a3, .int 0]))] sz)) 0 0 (va_A [(h0, .inr (2, [.ref h1, .int 0, .ref h2, .ref h3, .ref h4, .ref h5, .int 0, .ref h6, .int 0])), (h1, .inl (kT, 12, .inr (.inr (.inr (.inr (fun _ => none)))))), (h2, .inr (0, [.ref a1, .ref a2, .ref a3, .int 0]))] sz) := by
  refine Met.ofW (cc := cX2_cls) (maxL := 3) (ret := (some .int)) (by decide) rfl ?_
  intro p e s m args below meth c s₁ B hml hv
  obtain ⟨rfl, hsz, hP, hK, hD0, hst⟩ := hv
  have hx := B.exec
  have hb := B.bytes
  have hr := B.returns
  have hts := atoms_spec (ws := wsX2_cls) B.pre
  have hown : s.vm.findClass RX2 = some m.cls := findClass_of_methodNamed B.named
  have hlocks := B.notSynchronized
  have iX2_ := in_c_X2_cls_X2
  subst hsz
  have hD := hD0.self (sz := s.heap.size)
  generalize hAe : va_A [(h0, .inr (2, [.ref h1, .int 0, .ref h2, .ref h3, .ref h4, .ref h5, .int 0, .ref h6, .int 0])), (h1, .inl (kT, 12, .inr (.inr (.inr (.inr (fun _ => none)))))), (h2, .inr (0, [.ref a1, .ref a2, .ref a3, .int 0]))] s.heap.size = A at hD hst ⊢
  have hA : ∀ q : Nat, s.heap.size ≤ q → A q := fun q h => by rw [← hAe]; exact Or.inr h
  have hS : va_S A s.heap s.heap [] := va_S.rf
  have hl := lv_entry ([.ref h0, .int p0]) (n := 3) (Nat.le_of_ble_eq_true rfl)
  rw [lg_entry_eq]
  generalize (lg_sl ([.ref h0, .int p0]) ++ List.replicate (3 - (lg_sl ([.ref h0, .int p0])).length) Slot.unset).toArray = ls at hl ⊢
  have hl : lv_has ls 3 [(0, .ref h0), (1, .int p0)] := hl
  have km4_ : Int32.toInt (-4) = -4 := by decide
  have km1_ : Int32.toInt (-1) = -1 := by decide
  refine lv_iload_n hx hb dX2_cls_0 rfl (lv_at hl 1 rfl) ?_
  refine va_calli (va_runS (As := [.int p0]) (rest := []) ⟨hx, hb, hml, hown, hts⟩ (c_X2_isSlot l dC dI TT s.heap.size p0) (va_cwS 1 hts gX2_cls_X2_isSlot rfl rfl rfl (by decide +kernel) ⟨Nat.le_of_ble_eq_true rfl, Nat.le_of_ble_eq_true rfl⟩) (pr_S (ws := []) (wA := []) (tys := []) (hP.sub [] rfl) (hK.sub [] rfl) vd_nil hst hS (ro_free hS hA)) rfl rfl hl.1 rfl (lv_room (Nat.le_of_ble_eq_true rfl)) dX2_cls_1 ⟨Nat.le_of_ble_eq_true rfl, Nat.le_of_ble_eq_true rfl⟩) hS (fun q _ h => (ro_free hS hA) q h) (ro_free hS hA) (fun r_1 u t H1 locs ht hvm hw hB hz1 hk1 hS => ?_)
  have hP := ro_keep hP hk1
  generalize H1 = H at hP hS ⊢
  rcases hw with ⟨rfl, hp_2⟩ | ⟨rfl, hp_2⟩
  · refine lv_if_ne (tgt := 9) hx hb dX2_cls_4 (by decide) (fun _ => ?_) (fun c9 => absurd c9 (by decide))
    refine lv_aload_n hx hb dX2_cls_9 rfl (lv_at hl 0 rfl) ?_
    refine va_get (D := (dC, dI)) (ci := 2) (v := .ref h1) (C := RX2) (T := TX2) (N := 9) hx hb hts iX2_ hown hK hP 0 rfl rfl 0 (by decide) (hts (.fieldLink RX2 11 "FieldLeaves" "slots" "[LFieldLeaves$Thing;") (by decide +kernel)) (fun _ h9 => h9) rfl dX2_cls_10 ?_
    refine lv_iload_n hx hb dX2_cls_13 rfl (lv_at hl 1 rfl) ?_
    have h_3 : vp_in p0 12 := (vp_in_iff.mpr (by constructor <;> omega))
    refine va_aldq hx hb hK hP 1 0 rfl rfl h_3 dX2_cls_14 ?_
    refine W.eq (g2 := F0 m 15 ls [.null]) rfl ?_
    refine lv_astore_nN (lv' := [(2, .null), (0, .ref h0), (1, .int p0)]) hx hb dX2_cls_15 rfl hl (by decide) rfl (fun ls hl => ?_)
    refine lv_aload_nN hx hb dX2_cls_16 rfl (lv_at hl 0 rfl) ?_
    refine lv_ifnonnullN hx hb dX2_cls_17 ?_
    refine lv_bipush (v := (-4)) hx hb dX2_cls_20 (by decide) ?_
    refine lv_goto (tgt := 29) hx hb dX2_cls_22 (by decide) ?_
    exact W.iret (v := (-4)) hx hb hr (fun t ht hW => ⟨⟨(-4), (), rfl, (show (-4) = sp_cls p0 from by unfold sp_cls; (repeat' split) <;> first | rfl | (exfalso; omega)), trivial⟩, hS.F ht⟩) hS.2.2 dX2_cls_29
  · refine lv_if_ne (tgt := 9) hx hb dX2_cls_4 (by decide) (fun c9 => absurd c9 (by decide)) (fun _ => ?_)
    refine lv_iconst (v := (-1)) hx hb dX2_cls_7 (by decide) ?_
    exact W.iret (v := (-1)) hx hb hr (fun t ht hW => ⟨⟨(-1), (), rfl, (show (-1) = sp_cls p0 from by unfold sp_cls; (repeat' split) <;> first | rfl | (exfalso; omega)), trivial⟩, hS.F ht⟩) hS.2.2 dX2_cls_8
set_option maxRecDepth 20000 in
theorem in_c_X2_is_X2 : ∀ w ∈ u_ws RX2 TX2 9, w ∈ wsX2_is := by decide +kernel
set_option maxRecDepth 100000 in
set_option maxHeartbeats 4000000 in
theorem c_X2_is (l : Launch) (dC : Nat → ClassId) (dI : Nat → Nat → Nat) (TT : Nat × Nat × Nat) (sz : Nat) (h0 h1 h2 h3 h4 h5 h6 a1 a2 a3 : Nat) (kT : ClassId) (p0 : Int32) (p1 : Int32) : Met l yX2_is wsX2_is ({ frames := 1, cells := 0, slots := 0, locals := 20 } : Room) (va_Pc [.ref h0, .int p0, .int p1] (pr dC dI [(h0, .inr (2, [.ref h1, .int 0, .ref h2, .ref h3, .ref h4, .ref h5, .int 0, .ref h6, .int 0])), (h1, .inl (kT, 12, .inr (.inr (.inr (.inr (fun _ => none)))))), (h2, .inr (0, [.ref a1, .ref a2, .ref a3, .int 0]))] [(h0, .inr (2, [.ref h1, .int 0, .ref h2, .ref h3, .ref h4, .ref h5, .int 0, .ref h6, .int 0])), (h1, .inl (kT, 12, .inr (.inr (.inr (.inr (fun _ => none)))))), (h2, .inr (0, [.ref a1, .ref a2, .ref a3, .int 0]))] [(kT, .object RX1)] sz TT)) (va_Qi (fun (r : Int32) (u : Unit) => r = sp_is p0 p1) (fun _ _ => True) (va_A [(h0, .inr (2, [.ref h1, .int 0, .ref h2, .ref h3, .ref h4, .ref h5, .int 0, .ref h6, .int 0])), (h1, .inl (kT, 12, .inr (.inr (.inr (.inr (fun _ => none)))))), (h2, .inr (0, [.ref a1, .ref a2, .ref a3, .int 0]))] sz)) 0 0 (va_A [(h0, .inr (2, [.ref h1, .int 0, .ref h2, .ref h3, .ref h4, .ref h5, .int 0, .ref h6, .int 0])), (h1, .inl (kT, 12, .inr (.inr (.inr (.inr (fun _ => none)))))), (h2, .inr (0, [.ref a1, .ref a2, .ref a3, .int 0]))] sz) := by
  refine Met.ofW (cc := cX2_is) (maxL := 4) (ret := (some .int)) (by decide) rfl ?_
  intro p e s m args below meth c s₁ B hml hv
  obtain ⟨rfl, hsz, hP, hK, hD0, hst⟩ := hv
  have hx := B.exec
  have hb := B.bytes
  have hr := B.returns
  have hts := atoms_spec (ws := wsX2_is) B.pre
  have hown : s.vm.findClass RX2 = some m.cls := findClass_of_methodNamed B.named
  have hlocks := B.notSynchronized
  have iX2_ := in_c_X2_is_X2
  subst hsz
  have hD := hD0.self (sz := s.heap.size)
  generalize hAe : va_A [(h0, .inr (2, [.ref h1, .int 0, .ref h2, .ref h3, .ref h4, .ref h5, .int 0, .ref h6, .int 0])), (h1, .inl (kT, 12, .inr (.inr (.inr (.inr (fun _ => none)))))), (h2, .inr (0, [.ref a1, .ref a2, .ref a3, .int 0]))] s.heap.size = A at hD hst ⊢
  have hA : ∀ q : Nat, s.heap.size ≤ q → A q := fun q h => by rw [← hAe]; exact Or.inr h
  have hS : va_S A s.heap s.heap [] := va_S.rf
  have hl := lv_entry ([.ref h0, .int p0, .int p1]) (n := 4) (Nat.le_of_ble_eq_true rfl)
  rw [lg_entry_eq]
  generalize (lg_sl ([.ref h0, .int p0, .int p1]) ++ List.replicate (4 - (lg_sl ([.ref h0, .int p0, .int p1])).length) Slot.unset).toArray = ls at hl ⊢
  have hl : lv_has ls 4 [(0, .ref h0), (1, .int p0), (2, .int p1)] := hl
  have km1_ : Int32.toInt (-1) = -1 := by decide
  have k0_ : Int32.toInt 0 = 0 := by decide
  have k5_ : Int32.toInt 5 = 5 := by decide
  refine lv_iload_n hx hb dX2_is_0 rfl (lv_at hl 1 rfl) ?_
  refine va_calli (va_runS (As := [.int p0]) (rest := []) ⟨hx, hb, hml, hown, hts⟩ (c_X2_isSlot l dC dI TT s.heap.size p0) (va_cwS 1 hts gX2_is_X2_isSlot rfl rfl rfl (by decide +kernel) ⟨Nat.le_of_ble_eq_true rfl, Nat.le_of_ble_eq_true rfl⟩) (pr_S (ws := []) (wA := []) (tys := []) (hP.sub [] rfl) (hK.sub [] rfl) vd_nil hst hS (ro_free hS hA)) rfl rfl hl.1 rfl (lv_room (Nat.le_of_ble_eq_true rfl)) dX2_is_1 ⟨Nat.le_of_ble_eq_true rfl, Nat.le_of_ble_eq_true rfl⟩) hS (fun q _ h => (ro_free hS hA) q h) (ro_free hS hA) (fun r_1 u t H1 locs ht hvm hw hB hz1 hk1 hS => ?_)
  have hP := ro_keep hP hk1
  generalize H1 = H at hP hS ⊢
  rcases hw with ⟨rfl, hp_2⟩ | ⟨rfl, hp_2⟩
  · refine lv_if_eq (tgt := 16) hx hb dX2_is_4 (by decide) (fun c9 => absurd c9 (by decide)) (fun _ => ?_)
    refine lv_iload_n hx hb dX2_is_7 rfl (lv_at hl 2 rfl) ?_
    refine lv_if_lt (tgt := 16) hx hb dX2_is_8 (by decide) (fun c_3 => ?_) (fun c_3 => ?_)
    · have c_3 := Int32.lt_iff_toInt_lt.mp c_3
      refine lv_iconst (v := (-1)) hx hb dX2_is_16 (by decide) ?_
      exact W.iret (v := (-1)) hx hb hr (fun t ht hW => ⟨⟨(-1), (), rfl, (show (-1) = sp_is p0 p1 from by unfold sp_is; (repeat' split) <;> first | rfl | (exfalso; omega)), trivial⟩, hS.F ht⟩) hS.2.2 dX2_is_17
    · have c_3 := mt Int32.lt_iff_toInt_lt.mpr c_3
      refine lv_iload_n hx hb dX2_is_11 rfl (lv_at hl 2 rfl) ?_
      refine lv_iconst (v := 5) hx hb dX2_is_12 (by decide) ?_
      refine lv_icmp_le (tgt := 18) hx hb dX2_is_13 (by decide) (fun c_4 => ?_) (fun c_4 => ?_)
      · have c_4 := Int32.le_iff_toInt_le.mp c_4
        refine lv_aload_n hx hb dX2_is_18 rfl (lv_at hl 0 rfl) ?_
        refine va_get (D := (dC, dI)) (ci := 2) (v := .ref h1) (C := RX2) (T := TX2) (N := 9) hx hb hts iX2_ hown hK hP 0 rfl rfl 0 (by decide) (hts (.fieldLink RX2 11 "FieldLeaves" "slots" "[LFieldLeaves$Thing;") (by decide +kernel)) (fun _ h9 => h9) rfl dX2_is_19 ?_
        refine lv_iload_n hx hb dX2_is_22 rfl (lv_at hl 1 rfl) ?_
        have h_5 : vp_in p0 12 := (vp_in_iff.mpr (by constructor <;> omega))
        refine va_aldq hx hb hK hP 1 0 rfl rfl h_5 dX2_is_23 ?_
        refine W.eq (g2 := F0 m 24 ls [.null]) rfl ?_
        refine lv_astore_nN (lv' := [(3, .null), (0, .ref h0), (1, .int p0), (2, .int p1)]) hx hb dX2_is_24 rfl hl (by decide) rfl (fun ls hl => ?_)
        refine lv_aload_nN hx hb dX2_is_25 rfl (lv_at hl 0 rfl) ?_
        refine lv_ifnullN (tgt := 41) hx hb dX2_is_26 (by decide) ?_
        refine lv_iconst (v := 0) hx hb dX2_is_41 (by decide) ?_
        exact W.iret (v := 0) hx hb hr (fun t ht hW => ⟨⟨0, (), rfl, (show 0 = sp_is p0 p1 from by unfold sp_is; (repeat' split) <;> first | rfl | (exfalso; omega)), trivial⟩, hS.F ht⟩) hS.2.2 dX2_is_42
      · have c_4 := mt Int32.le_iff_toInt_le.mpr c_4
        refine lv_iconst (v := (-1)) hx hb dX2_is_16 (by decide) ?_
        exact W.iret (v := (-1)) hx hb hr (fun t ht hW => ⟨⟨(-1), (), rfl, (show (-1) = sp_is p0 p1 from by unfold sp_is; (repeat' split) <;> first | rfl | (exfalso; omega)), trivial⟩, hS.F ht⟩) hS.2.2 dX2_is_17
  · refine lv_if_eq (tgt := 16) hx hb dX2_is_4 (by decide) (fun _ => ?_) (fun c9 => absurd c9 (by decide))
    refine lv_iconst (v := (-1)) hx hb dX2_is_16 (by decide) ?_
    exact W.iret (v := (-1)) hx hb hr (fun t ht hW => ⟨⟨(-1), (), rfl, (show (-1) = sp_is p0 p1 from by unfold sp_is; (repeat' split) <;> first | rfl | (exfalso; omega)), trivial⟩, hS.F ht⟩) hS.2.2 dX2_is_17
set_option maxRecDepth 20000 in
theorem in_c_X2_get_X2 : ∀ w ∈ u_ws RX2 TX2 9, w ∈ wsX2_get := by decide +kernel
set_option maxRecDepth 100000 in
set_option maxHeartbeats 4000000 in
theorem c_X2_get (l : Launch) (dC : Nat → ClassId) (dI : Nat → Nat → Nat) (TT : Nat × Nat × Nat) (sz : Nat) (h0 h1 h2 h3 h4 h5 h6 a1 a2 a3 : Nat) (kT : ClassId) (p0 : Int32) (p1 : Int32) : Met l yX2_get wsX2_get ({ frames := 2, cells := 0, slots := 0, locals := 40 } : Room) (va_Pc [.ref h0, .int p0, .int p1] (pr dC dI [(h0, .inr (2, [.ref h1, .int 0, .ref h2, .ref h3, .ref h4, .ref h5, .int 0, .ref h6, .int 0])), (h1, .inl (kT, 12, .inr (.inr (.inr (.inr (fun _ => none)))))), (h2, .inr (0, [.ref a1, .ref a2, .ref a3, .int 0]))] [(h0, .inr (2, [.ref h1, .int 0, .ref h2, .ref h3, .ref h4, .ref h5, .int 0, .ref h6, .int 0])), (h1, .inl (kT, 12, .inr (.inr (.inr (.inr (fun _ => none)))))), (h2, .inr (0, [.ref a1, .ref a2, .ref a3, .int 0]))] [(kT, .object RX1)] sz TT)) (va_Ql (fun (r : Int64) (u : Unit) => r = sp_get p0 p1) (fun _ _ => True) (va_A [(h0, .inr (2, [.ref h1, .int 0, .ref h2, .ref h3, .ref h4, .ref h5, .int 0, .ref h6, .int 0])), (h1, .inl (kT, 12, .inr (.inr (.inr (.inr (fun _ => none)))))), (h2, .inr (0, [.ref a1, .ref a2, .ref a3, .int 0]))] sz)) 0 0 (va_A [(h0, .inr (2, [.ref h1, .int 0, .ref h2, .ref h3, .ref h4, .ref h5, .int 0, .ref h6, .int 0])), (h1, .inl (kT, 12, .inr (.inr (.inr (.inr (fun _ => none)))))), (h2, .inr (0, [.ref a1, .ref a2, .ref a3, .int 0]))] sz) := by
  refine Met.ofW (cc := cX2_get) (maxL := 5) (ret := (some .long)) (by decide) rfl ?_
  intro p e s m args below meth c s₁ B hml hv
  obtain ⟨rfl, hsz, hP, hK, hD0, hst⟩ := hv
  have hx := B.exec
  have hb := B.bytes
  have hr := B.returns
  have hts := atoms_spec (ws := wsX2_get) B.pre
  have hown : s.vm.findClass RX2 = some m.cls := findClass_of_methodNamed B.named
  have hlocks := B.notSynchronized
  have iX2_ := in_c_X2_get_X2
  subst hsz
  have hD := hD0.self (sz := s.heap.size)
  generalize hAe : va_A [(h0, .inr (2, [.ref h1, .int 0, .ref h2, .ref h3, .ref h4, .ref h5, .int 0, .ref h6, .int 0])), (h1, .inl (kT, 12, .inr (.inr (.inr (.inr (fun _ => none)))))), (h2, .inr (0, [.ref a1, .ref a2, .ref a3, .int 0]))] s.heap.size = A at hD hst ⊢
  have hA : ∀ q : Nat, s.heap.size ≤ q → A q := fun q h => by rw [← hAe]; exact Or.inr h
  have hS : va_S A s.heap s.heap [] := va_S.rf
  have hl := lv_entry ([.ref h0, .int p0, .int p1]) (n := 5) (Nat.le_of_ble_eq_true rfl)
  rw [lg_entry_eq]
  generalize (lg_sl ([.ref h0, .int p0, .int p1]) ++ List.replicate (5 - (lg_sl ([.ref h0, .int p0, .int p1])).length) Slot.unset).toArray = ls at hl ⊢
  have hl : lv_has ls 5 [(0, .ref h0), (1, .int p0), (2, .int p1)] := hl
  have klm11_ : Int64.toInt (-11) = -11 := by decide
  have klm1_ : Int64.toInt (-1) = -1 := by decide
  refine lv_iload_n hx hb dX2_get_0 rfl (lv_at hl 1 rfl) ?_
  refine va_calli (va_runS (As := [.int p0]) (rest := []) ⟨hx, hb, hml, hown, hts⟩ (c_X2_isSlot l dC dI TT s.heap.size p0) (va_cwS 1 hts gX2_get_X2_isSlot rfl rfl rfl (by decide +kernel) ⟨Nat.le_of_ble_eq_true rfl, Nat.le_of_ble_eq_true rfl⟩) (pr_S (ws := []) (wA := []) (tys := []) (hP.sub [] rfl) (hK.sub [] rfl) vd_nil hst hS (ro_free hS hA)) rfl rfl hl.1 rfl (lv_room (Nat.le_of_ble_eq_true rfl)) dX2_get_1 ⟨Nat.le_of_ble_eq_true rfl, Nat.le_of_ble_eq_true rfl⟩) hS (fun q _ h => (ro_free hS hA) q h) (ro_free hS hA) (fun r_1 u t H1 locs ht hvm hw hB hz1 hk1 hS => ?_)
  have hP := ro_keep hP hk1
  generalize H1 = H at hP hS ⊢
  rcases hw with ⟨rfl, hp_2⟩ | ⟨rfl, hp_2⟩
  · refine lv_if_eq (tgt := 14) hx hb dX2_get_4 (by decide) (fun c9 => absurd c9 (by decide)) (fun _ => ?_)
    refine lv_iload_n hx hb dX2_get_7 rfl (lv_at hl 2 rfl) ?_
    refine va_calli (va_runS (As := [.int p1]) (rest := []) ⟨hx, hb, hml, hown, hts⟩ (c_X2_isValueField l dC dI TT H.size p1) (va_cwS 1 hts gX2_get_X2_isValueField rfl rfl rfl (by decide +kernel) ⟨Nat.le_of_ble_eq_true rfl, Nat.le_of_ble_eq_true rfl⟩) (pr_S (ws := []) (wA := []) (tys := []) (hP.sub [] rfl) (hK.sub [] rfl) vd_nil hst hS (ro_free hS hA)) rfl rfl hl.1 rfl (lv_room (Nat.le_of_ble_eq_true rfl)) dX2_get_8 ⟨Nat.le_of_ble_eq_true rfl, Nat.le_of_ble_eq_true rfl⟩) hS (fun q _ h => (ro_free hS hA) q h) (ro_free hS hA) (fun r_3 u t H1 locs ht hvm hw hB hz1 hk1 hS => ?_)
    have hP := ro_keep hP hk1
    generalize H1 = H at hP hS ⊢
    rcases hw with ⟨rfl, hp_4⟩ | ⟨rfl, hp_4⟩
    · refine lv_if_ne (tgt := 18) hx hb dX2_get_11 (by decide) (fun _ => ?_) (fun c9 => absurd c9 (by decide))
      refine lv_aload_n hx hb dX2_get_18 rfl (lv_at hl 0 rfl) ?_
      refine va_get (D := (dC, dI)) (ci := 2) (v := .ref h1) (C := RX2) (T := TX2) (N := 9) hx hb hts iX2_ hown hK hP 0 rfl rfl 0 (by decide) (hts (.fieldLink RX2 11 "FieldLeaves" "slots" "[LFieldLeaves$Thing;") (by decide +kernel)) (fun _ h9 => h9) rfl dX2_get_19 ?_
      refine lv_iload_n hx hb dX2_get_22 rfl (lv_at hl 1 rfl) ?_
      have h_5 : vp_in p0 12 := (vp_in_iff.mpr (by constructor <;> omega))
      refine va_aldq hx hb hK hP 1 0 rfl rfl h_5 dX2_get_23 ?_
      refine W.eq (g2 := F0 m 24 ls [.null]) rfl ?_
      refine lv_astore_nN (lv' := [(3, .null), (0, .ref h0), (1, .int p0), (2, .int p1)]) hx hb dX2_get_24 rfl hl (by decide) rfl (fun ls hl => ?_)
      refine lv_aload_nN hx hb dX2_get_25 rfl (lv_at hl 0 rfl) ?_
      refine va_gets (v := .ref TT.2.1) hx hb hst.zO hS hown (hts (.fieldLink RX2 57 "FieldLeaves" "OWNER" "[I") (by decide +kernel)) (fun _ h9 => h9) dX2_get_26 ?_
      refine lv_iload_n hx hb dX2_get_29 rfl (lv_at hl 3 rfl) ?_
      have h_6 : vp_in p1 17 := (vp_in_iff.mpr (by constructor <;> omega))
      refine va_ti hx hb hst.tO hS h_6 (v := .int (OWNERt (Int32.toNatClampNeg p1))) rfl dX2_get_30 ?_
      have fh_6 := OWNERt_is h_6
      refine va_calli (va_runS (As := [.null, .int (OWNERt (Int32.toNatClampNeg p1))]) (rest := []) ⟨hx, hb, hml, hown, hts⟩ (c_X2_failureAs_null l dC dI TT H.size (OWNERt (Int32.toNatClampNeg p1))) (va_cwS 2 hts gX2_get_X2_failureAs rfl rfl rfl (by decide +kernel) ⟨Nat.le_of_ble_eq_true rfl, Nat.le_of_ble_eq_true rfl⟩) (pr_S (ws := []) (wA := []) (tys := []) (hP.sub [] rfl) (hK.sub [] rfl) vd_nil hst hS (ro_free hS hA)) rfl rfl hl.1 rfl (lv_room (Nat.le_of_ble_eq_true rfl)) dX2_get_31 ⟨Nat.le_of_ble_eq_true rfl, Nat.le_of_ble_eq_true rfl⟩) hS (fun q _ h => (ro_free hS hA) q h) (ro_free hS hA) (fun r_7 u t H1 locs ht hvm hw hB hz1 hk1 hS => ?_)
      have hP := ro_keep hP hk1
      generalize H1 = H at hP hS ⊢
      subst hw
      refine lv_istore (lv' := [(4, .int (-11)), (3, .null), (0, .ref h0), (1, .int p0), (2, .int p1)]) hx hb dX2_get_34 hl (by decide) rfl (fun ls hl => ?_)
      refine lv_iload hx hb dX2_get_36 (lv_at hl 0 rfl) ?_
      refine lv_if_eq (tgt := 47) hx hb dX2_get_38 (by decide) (fun c9 => absurd c9 (by decide)) (fun _ => ?_)
      refine lv_iload hx hb dX2_get_41 (lv_at hl 0 rfl) ?_
      refine lv_i2l (v := (-11)) hx hb dX2_get_43 (by decide) ?_
      refine lv_goto (tgt := 53) hx hb dX2_get_44 (by decide) ?_
      exact W.lret (v := (-11)) hx hb hr (fun t ht hW => ⟨⟨(-11), (), rfl, (show (-11) = sp_get p0 p1 from by unfold sp_get; (repeat' split) <;> first | rfl | (exfalso; omega)), trivial⟩, hS.F ht⟩) hS.2.2 dX2_get_53
    · refine lv_if_ne (tgt := 18) hx hb dX2_get_11 (by decide) (fun c9 => absurd c9 (by decide)) (fun _ => ?_)
      refine lv_ldc2 hx hb hown (hts (.constantLong RX2 55 (-1)) (by decide +kernel)) dX2_get_14 ?_
      exact W.lret (v := (-1)) hx hb hr (fun t ht hW => ⟨⟨(-1), (), rfl, (show (-1) = sp_get p0 p1 from by unfold sp_get; (repeat' split) <;> first | rfl | (exfalso; omega)), trivial⟩, hS.F ht⟩) hS.2.2 dX2_get_17
  · refine lv_if_eq (tgt := 14) hx hb dX2_get_4 (by decide) (fun _ => ?_) (fun c9 => absurd c9 (by decide))
    refine lv_ldc2 hx hb hown (hts (.constantLong RX2 55 (-1)) (by decide +kernel)) dX2_get_14 ?_
    exact W.lret (v := (-1)) hx hb hr (fun t ht hW => ⟨⟨(-1), (), rfl, (show (-1) = sp_get p0 p1 from by unfold sp_get; (repeat' split) <;> first | rfl | (exfalso; omega)), trivial⟩, hS.F ht⟩) hS.2.2 dX2_get_17
set_option maxRecDepth 20000 in
theorem in_c_X2_set_X2 : ∀ w ∈ u_ws RX2 TX2 9, w ∈ wsX2_set := by decide +kernel
set_option maxRecDepth 100000 in
set_option maxHeartbeats 4000000 in
theorem c_X2_set (l : Launch) (dC : Nat → ClassId) (dI : Nat → Nat → Nat) (TT : Nat × Nat × Nat) (sz : Nat) (h0 h1 h2 h3 h4 h5 h6 a1 a2 a3 : Nat) (kT : ClassId) (p0 : Int32) (p1 : Int32) (p2 : Int64) : Met l yX2_set wsX2_set ({ frames := 2, cells := 0, slots := 0, locals := 40 } : Room) (va_Pc [.ref h0, .int p0, .int p1, .long p2] (pr dC dI [(h0, .inr (2, [.ref h1, .int 0, .ref h2, .ref h3, .ref h4, .ref h5, .int 0, .ref h6, .int 0])), (h1, .inl (kT, 12, .inr (.inr (.inr (.inr (fun _ => none)))))), (h2, .inr (0, [.ref a1, .ref a2, .ref a3, .int 0]))] [(h0, .inr (2, [.ref h1, .int 0, .ref h2, .ref h3, .ref h4, .ref h5, .int 0, .ref h6, .int 0])), (h1, .inl (kT, 12, .inr (.inr (.inr (.inr (fun _ => none)))))), (h2, .inr (0, [.ref a1, .ref a2, .ref a3, .int 0]))] [(kT, .object RX1)] sz TT)) (va_Qi (fun (r : Int32) (u : Unit) => r = sp_set p0 p1 p2) (fun _ _ => True) (va_A [(h0, .inr (2, [.ref h1, .int 0, .ref h2, .ref h3, .ref h4, .ref h5, .int 0, .ref h6, .int 0])), (h1, .inl (kT, 12, .inr (.inr (.inr (.inr (fun _ => none)))))), (h2, .inr (0, [.ref a1, .ref a2, .ref a3, .int 0]))] sz)) 0 0 (va_A [(h0, .inr (2, [.ref h1, .int 0, .ref h2, .ref h3, .ref h4, .ref h5, .int 0, .ref h6, .int 0])), (h1, .inl (kT, 12, .inr (.inr (.inr (.inr (fun _ => none)))))), (h2, .inr (0, [.ref a1, .ref a2, .ref a3, .int 0]))] sz) := by
  refine Met.ofW (cc := cX2_set) (maxL := 7) (ret := (some .int)) (by decide) rfl ?_
  intro p e s m args below meth c s₁ B hml hv
  obtain ⟨rfl, hsz, hP, hK, hD0, hst⟩ := hv
  have hx := B.exec
  have hb := B.bytes
  have hr := B.returns
  have hts := atoms_spec (ws := wsX2_set) B.pre
  have hown : s.vm.findClass RX2 = some m.cls := findClass_of_methodNamed B.named
  have hlocks := B.notSynchronized
  have iX2_ := in_c_X2_set_X2
  subst hsz
  have hD := hD0.self (sz := s.heap.size)
  generalize hAe : va_A [(h0, .inr (2, [.ref h1, .int 0, .ref h2, .ref h3, .ref h4, .ref h5, .int 0, .ref h6, .int 0])), (h1, .inl (kT, 12, .inr (.inr (.inr (.inr (fun _ => none)))))), (h2, .inr (0, [.ref a1, .ref a2, .ref a3, .int 0]))] s.heap.size = A at hD hst ⊢
  have hA : ∀ q : Nat, s.heap.size ≤ q → A q := fun q h => by rw [← hAe]; exact Or.inr h
  have hS : va_S A s.heap s.heap [] := va_S.rf
  have hl := lv_entry ([.ref h0, .int p0, .int p1, .long p2]) (n := 7) (Nat.le_of_ble_eq_true rfl)
  rw [lg_entry_eq]
  generalize (lg_sl ([.ref h0, .int p0, .int p1, .long p2]) ++ List.replicate (7 - (lg_sl ([.ref h0, .int p0, .int p1, .long p2])).length) Slot.unset).toArray = ls at hl ⊢
  have hl : lv_has ls 7 [(0, .ref h0), (1, .int p0), (2, .int p1), (3, .long p2)] := hl
  have km11_ : Int32.toInt (-11) = -11 := by decide
  have km1_ : Int32.toInt (-1) = -1 := by decide
  refine lv_iload_n hx hb dX2_set_0 rfl (lv_at hl 1 rfl) ?_
  refine va_calli (va_runS (As := [.int p0]) (rest := []) ⟨hx, hb, hml, hown, hts⟩ (c_X2_isSlot l dC dI TT s.heap.size p0) (va_cwS 1 hts gX2_set_X2_isSlot rfl rfl rfl (by decide +kernel) ⟨Nat.le_of_ble_eq_true rfl, Nat.le_of_ble_eq_true rfl⟩) (pr_S (ws := []) (wA := []) (tys := []) (hP.sub [] rfl) (hK.sub [] rfl) vd_nil hst hS (ro_free hS hA)) rfl rfl hl.1 rfl (lv_room (Nat.le_of_ble_eq_true rfl)) dX2_set_1 ⟨Nat.le_of_ble_eq_true rfl, Nat.le_of_ble_eq_true rfl⟩) hS (fun q _ h => (ro_free hS hA) q h) (ro_free hS hA) (fun r_1 u t H1 locs ht hvm hw hB hz1 hk1 hS => ?_)
  have hP := ro_keep hP hk1
  generalize H1 = H at hP hS ⊢
  rcases hw with ⟨rfl, hp_2⟩ | ⟨rfl, hp_2⟩
  · refine lv_if_eq (tgt := 14) hx hb dX2_set_4 (by decide) (fun c9 => absurd c9 (by decide)) (fun _ => ?_)
    refine lv_iload_n hx hb dX2_set_7 rfl (lv_at hl 2 rfl) ?_
    refine va_calli (va_runS (As := [.int p1]) (rest := []) ⟨hx, hb, hml, hown, hts⟩ (c_X2_isValueField l dC dI TT H.size p1) (va_cwS 1 hts gX2_set_X2_isValueField rfl rfl rfl (by decide +kernel) ⟨Nat.le_of_ble_eq_true rfl, Nat.le_of_ble_eq_true rfl⟩) (pr_S (ws := []) (wA := []) (tys := []) (hP.sub [] rfl) (hK.sub [] rfl) vd_nil hst hS (ro_free hS hA)) rfl rfl hl.1 rfl (lv_room (Nat.le_of_ble_eq_true rfl)) dX2_set_8 ⟨Nat.le_of_ble_eq_true rfl, Nat.le_of_ble_eq_true rfl⟩) hS (fun q _ h => (ro_free hS hA) q h) (ro_free hS hA) (fun r_3 u t H1 locs ht hvm hw hB hz1 hk1 hS => ?_)
    have hP := ro_keep hP hk1
    generalize H1 = H at hP hS ⊢
    rcases hw with ⟨rfl, hp_4⟩ | ⟨rfl, hp_4⟩
    · refine lv_if_ne (tgt := 16) hx hb dX2_set_11 (by decide) (fun _ => ?_) (fun c9 => absurd c9 (by decide))
      refine lv_aload_n hx hb dX2_set_16 rfl (lv_at hl 0 rfl) ?_
      refine va_get (D := (dC, dI)) (ci := 2) (v := .ref h1) (C := RX2) (T := TX2) (N := 9) hx hb hts iX2_ hown hK hP 0 rfl rfl 0 (by decide) (hts (.fieldLink RX2 11 "FieldLeaves" "slots" "[LFieldLeaves$Thing;") (by decide +kernel)) (fun _ h9 => h9) rfl dX2_set_17 ?_
      refine lv_iload_n hx hb dX2_set_20 rfl (lv_at hl 1 rfl) ?_
      have h_5 : vp_in p0 12 := (vp_in_iff.mpr (by constructor <;> omega))
      refine va_aldq hx hb hK hP 1 0 rfl rfl h_5 dX2_set_21 ?_
      refine W.eq (g2 := F0 m 22 ls [.null]) rfl ?_
      refine lv_astoreN (lv' := [(5, .null), (0, .ref h0), (1, .int p0), (2, .int p1), (3, .long p2)]) hx hb dX2_set_22 hl (by decide) rfl (fun ls hl => ?_)
      refine lv_aloadN hx hb dX2_set_24 (lv_at hl 0 rfl) ?_
      refine va_gets (v := .ref TT.2.1) hx hb hst.zO hS hown (hts (.fieldLink RX2 57 "FieldLeaves" "OWNER" "[I") (by decide +kernel)) (fun _ h9 => h9) dX2_set_26 ?_
      refine lv_iload_n hx hb dX2_set_29 rfl (lv_at hl 3 rfl) ?_
      have h_6 : vp_in p1 17 := (vp_in_iff.mpr (by constructor <;> omega))
      refine va_ti hx hb hst.tO hS h_6 (v := .int (OWNERt (Int32.toNatClampNeg p1))) rfl dX2_set_30 ?_
      have fh_6 := OWNERt_is h_6
      refine va_calli (va_runS (As := [.null, .int (OWNERt (Int32.toNatClampNeg p1))]) (rest := []) ⟨hx, hb, hml, hown, hts⟩ (c_X2_failureAs_null l dC dI TT H.size (OWNERt (Int32.toNatClampNeg p1))) (va_cwS 2 hts gX2_set_X2_failureAs rfl rfl rfl (by decide +kernel) ⟨Nat.le_of_ble_eq_true rfl, Nat.le_of_ble_eq_true rfl⟩) (pr_S (ws := []) (wA := []) (tys := []) (hP.sub [] rfl) (hK.sub [] rfl) vd_nil hst hS (ro_free hS hA)) rfl rfl hl.1 rfl (lv_room (Nat.le_of_ble_eq_true rfl)) dX2_set_31 ⟨Nat.le_of_ble_eq_true rfl, Nat.le_of_ble_eq_true rfl⟩) hS (fun q _ h => (ro_free hS hA) q h) (ro_free hS hA) (fun r_7 u t H1 locs ht hvm hw hB hz1 hk1 hS => ?_)
      have hP := ro_keep hP hk1
      generalize H1 = H at hP hS ⊢
      subst hw
      refine lv_istore (lv' := [(6, .int (-11)), (5, .null), (0, .ref h0), (1, .int p0), (2, .int p1), (3, .long p2)]) hx hb dX2_set_34 hl (by decide) rfl (fun ls hl => ?_)
      refine lv_iload hx hb dX2_set_36 (lv_at hl 0 rfl) ?_
      refine lv_if_eq (tgt := 44) hx hb dX2_set_38 (by decide) (fun c9 => absurd c9 (by decide)) (fun _ => ?_)
      refine lv_iload hx hb dX2_set_41 (lv_at hl 0 rfl) ?_
      exact W.iret (v := (-11)) hx hb hr (fun t ht hW => ⟨⟨(-11), (), rfl, (show (-11) = sp_set p0 p1 p2 from by unfold sp_set; (repeat' split) <;> first | rfl | (exfalso; omega)), trivial⟩, hS.F ht⟩) hS.2.2 dX2_set_43
    · refine lv_if_ne (tgt := 16) hx hb dX2_set_11 (by decide) (fun c9 => absurd c9 (by decide)) (fun _ => ?_)
      refine lv_iconst (v := (-1)) hx hb dX2_set_14 (by decide) ?_
      exact W.iret (v := (-1)) hx hb hr (fun t ht hW => ⟨⟨(-1), (), rfl, (show (-1) = sp_set p0 p1 p2 from by unfold sp_set; (repeat' split) <;> first | rfl | (exfalso; omega)), trivial⟩, hS.F ht⟩) hS.2.2 dX2_set_15
  · refine lv_if_eq (tgt := 14) hx hb dX2_set_4 (by decide) (fun _ => ?_) (fun c9 => absurd c9 (by decide))
    refine lv_iconst (v := (-1)) hx hb dX2_set_14 (by decide) ?_
    exact W.iret (v := (-1)) hx hb hr (fun t ht hW => ⟨⟨(-1), (), rfl, (show (-1) = sp_set p0 p1 p2 from by unfold sp_set; (repeat' split) <;> first | rfl | (exfalso; omega)), trivial⟩, hS.F ht⟩) hS.2.2 dX2_set_15
set_option maxRecDepth 20000 in
theorem in_c_X2_link_X2 : ∀ w ∈ u_ws RX2 TX2 9, w ∈ wsX2_link := by decide +kernel
set_option maxRecDepth 100000 in
set_option maxHeartbeats 4000000 in
theorem c_X2_link (l : Launch) (dC : Nat → ClassId) (dI : Nat → Nat → Nat) (TT : Nat × Nat × Nat) (sz : Nat) (h0 h1 h2 h3 h4 h5 h6 a1 a2 a3 : Nat) (kT : ClassId) (p0 : Int32) (p1 : Int32) (p2 : Int32) : Met l yX2_link wsX2_link ({ frames := 2, cells := 0, slots := 0, locals := 40 } : Room) (va_Pc [.ref h0, .int p0, .int p1, .int p2] (pr dC dI [(h0, .inr (2, [.ref h1, .int 0, .ref h2, .ref h3, .ref h4, .ref h5, .int 0, .ref h6, .int 0])), (h1, .inl (kT, 12, .inr (.inr (.inr (.inr (fun _ => none)))))), (h2, .inr (0, [.ref a1, .ref a2, .ref a3, .int 0]))] [(h0, .inr (2, [.ref h1, .int 0, .ref h2, .ref h3, .ref h4, .ref h5, .int 0, .ref h6, .int 0])), (h1, .inl (kT, 12, .inr (.inr (.inr (.inr (fun _ => none)))))), (h2, .inr (0, [.ref a1, .ref a2, .ref a3, .int 0]))] [(kT, .object RX1)] sz TT)) (va_Qi (fun (r : Int32) (u : Unit) => r = sp_link p0 p1 p2) (fun _ _ => True) (va_A [(h0, .inr (2, [.ref h1, .int 0, .ref h2, .ref h3, .ref h4, .ref h5, .int 0, .ref h6, .int 0])), (h1, .inl (kT, 12, .inr (.inr (.inr (.inr (fun _ => none)))))), (h2, .inr (0, [.ref a1, .ref a2, .ref a3, .int 0]))] sz)) 0 0 (va_A [(h0, .inr (2, [.ref h1, .int 0, .ref h2, .ref h3, .ref h4, .ref h5, .int 0, .ref h6, .int 0])), (h1, .inl (kT, 12, .inr (.inr (.inr (.inr (fun _ => none)))))), (h2, .inr (0, [.ref a1, .ref a2, .ref a3, .int 0]))] sz) := by
  refine Met.ofW (cc := cX2_link) (maxL := 6) (ret := (some .int)) (by decide) rfl ?_
  intro p e s m args below meth c s₁ B hml hv
  obtain ⟨rfl, hsz, hP, hK, hD0, hst⟩ := hv
  have hx := B.exec
  have hb := B.bytes
  have hr := B.returns
  have hts := atoms_spec (ws := wsX2_link) B.pre
  have hown : s.vm.findClass RX2 = some m.cls := findClass_of_methodNamed B.named
  have hlocks := B.notSynchronized
  have iX2_ := in_c_X2_link_X2
  subst hsz
  have hD := hD0.self (sz := s.heap.size)
  generalize hAe : va_A [(h0, .inr (2, [.ref h1, .int 0, .ref h2, .ref h3, .ref h4, .ref h5, .int 0, .ref h6, .int 0])), (h1, .inl (kT, 12, .inr (.inr (.inr (.inr (fun _ => none)))))), (h2, .inr (0, [.ref a1, .ref a2, .ref a3, .int 0]))] s.heap.size = A at hD hst ⊢
  have hA : ∀ q : Nat, s.heap.size ≤ q → A q := fun q h => by rw [← hAe]; exact Or.inr h
  have hS : va_S A s.heap s.heap [] := va_S.rf
  have hl := lv_entry ([.ref h0, .int p0, .int p1, .int p2]) (n := 6) (Nat.le_of_ble_eq_true rfl)
  rw [lg_entry_eq]
  generalize (lg_sl ([.ref h0, .int p0, .int p1, .int p2]) ++ List.replicate (6 - (lg_sl ([.ref h0, .int p0, .int p1, .int p2])).length) Slot.unset).toArray = ls at hl ⊢
  have hl : lv_has ls 6 [(0, .ref h0), (1, .int p0), (2, .int p1), (3, .int p2)] := hl
  have km11_ : Int32.toInt (-11) = -11 := by decide
  have km1_ : Int32.toInt (-1) = -1 := by decide
  refine lv_iload_n hx hb dX2_link_0 rfl (lv_at hl 1 rfl) ?_
  refine va_calli (va_runS (As := [.int p0]) (rest := []) ⟨hx, hb, hml, hown, hts⟩ (c_X2_isSlot l dC dI TT s.heap.size p0) (va_cwS 1 hts gX2_link_X2_isSlot rfl rfl rfl (by decide +kernel) ⟨Nat.le_of_ble_eq_true rfl, Nat.le_of_ble_eq_true rfl⟩) (pr_S (ws := []) (wA := []) (tys := []) (hP.sub [] rfl) (hK.sub [] rfl) vd_nil hst hS (ro_free hS hA)) rfl rfl hl.1 rfl (lv_room (Nat.le_of_ble_eq_true rfl)) dX2_link_1 ⟨Nat.le_of_ble_eq_true rfl, Nat.le_of_ble_eq_true rfl⟩) hS (fun q _ h => (ro_free hS hA) q h) (ro_free hS hA) (fun r_1 u t H1 locs ht hvm hw hB hz1 hk1 hS => ?_)
  have hP := ro_keep hP hk1
  generalize H1 = H at hP hS ⊢
  rcases hw with ⟨rfl, hp_2⟩ | ⟨rfl, hp_2⟩
  · refine lv_if_eq (tgt := 21) hx hb dX2_link_4 (by decide) (fun c9 => absurd c9 (by decide)) (fun _ => ?_)
    refine lv_iload_n hx hb dX2_link_7 rfl (lv_at hl 2 rfl) ?_
    refine va_calli (va_runS (As := [.int p1]) (rest := []) ⟨hx, hb, hml, hown, hts⟩ (c_X2_isLinkField l dC dI TT H.size p1) (va_cwS 1 hts gX2_link_X2_isLinkField rfl rfl rfl (by decide +kernel) ⟨Nat.le_of_ble_eq_true rfl, Nat.le_of_ble_eq_true rfl⟩) (pr_S (ws := []) (wA := []) (tys := []) (hP.sub [] rfl) (hK.sub [] rfl) vd_nil hst hS (ro_free hS hA)) rfl rfl hl.1 rfl (lv_room (Nat.le_of_ble_eq_true rfl)) dX2_link_8 ⟨Nat.le_of_ble_eq_true rfl, Nat.le_of_ble_eq_true rfl⟩) hS (fun q _ h => (ro_free hS hA) q h) (ro_free hS hA) (fun r_3 u t H1 locs ht hvm hw hB hz1 hk1 hS => ?_)
    have hP := ro_keep hP hk1
    generalize H1 = H at hP hS ⊢
    rcases hw with ⟨rfl, hp_4⟩ | ⟨rfl, hp_4⟩
    · refine lv_if_eq (tgt := 21) hx hb dX2_link_11 (by decide) (fun c9 => absurd c9 (by decide)) (fun _ => ?_)
      refine lv_iload_n hx hb dX2_link_14 rfl (lv_at hl 3 rfl) ?_
      refine va_calli (va_runS (As := [.int p2]) (rest := []) ⟨hx, hb, hml, hown, hts⟩ (c_X2_isSlot l dC dI TT H.size p2) (va_cwS 1 hts gX2_link_X2_isSlot rfl rfl rfl (by decide +kernel) ⟨Nat.le_of_ble_eq_true rfl, Nat.le_of_ble_eq_true rfl⟩) (pr_S (ws := []) (wA := []) (tys := []) (hP.sub [] rfl) (hK.sub [] rfl) vd_nil hst hS (ro_free hS hA)) rfl rfl hl.1 rfl (lv_room (Nat.le_of_ble_eq_true rfl)) dX2_link_15 ⟨Nat.le_of_ble_eq_true rfl, Nat.le_of_ble_eq_true rfl⟩) hS (fun q _ h => (ro_free hS hA) q h) (ro_free hS hA) (fun r_5 u t H1 locs ht hvm hw hB hz1 hk1 hS => ?_)
      have hP := ro_keep hP hk1
      generalize H1 = H at hP hS ⊢
      rcases hw with ⟨rfl, hp_6⟩ | ⟨rfl, hp_6⟩
      · refine lv_if_ne (tgt := 23) hx hb dX2_link_18 (by decide) (fun _ => ?_) (fun c9 => absurd c9 (by decide))
        refine lv_aload_n hx hb dX2_link_23 rfl (lv_at hl 0 rfl) ?_
        refine va_get (D := (dC, dI)) (ci := 2) (v := .ref h1) (C := RX2) (T := TX2) (N := 9) hx hb hts iX2_ hown hK hP 0 rfl rfl 0 (by decide) (hts (.fieldLink RX2 11 "FieldLeaves" "slots" "[LFieldLeaves$Thing;") (by decide +kernel)) (fun _ h9 => h9) rfl dX2_link_24 ?_
        refine lv_iload_n hx hb dX2_link_27 rfl (lv_at hl 1 rfl) ?_
        have h_7 : vp_in p0 12 := (vp_in_iff.mpr (by constructor <;> omega))
        refine va_aldq hx hb hK hP 1 0 rfl rfl h_7 dX2_link_28 ?_
        refine W.eq (g2 := F0 m 29 ls [.null]) rfl ?_
        refine lv_astoreN (lv' := [(4, .null), (0, .ref h0), (1, .int p0), (2, .int p1), (3, .int p2)]) hx hb dX2_link_29 hl (by decide) rfl (fun ls hl => ?_)
        refine lv_aload_n hx hb dX2_link_31 rfl (lv_at hl 1 rfl) ?_
        refine va_get (D := (dC, dI)) (ci := 2) (v := .ref h1) (C := RX2) (T := TX2) (N := 9) hx hb hts iX2_ hown hK hP 0 rfl rfl 0 (by decide) (hts (.fieldLink RX2 11 "FieldLeaves" "slots" "[LFieldLeaves$Thing;") (by decide +kernel)) (fun _ h9 => h9) rfl dX2_link_32 ?_
        refine lv_iload_n hx hb dX2_link_35 rfl (lv_at hl 4 rfl) ?_
        have h_8 : vp_in p2 12 := (vp_in_iff.mpr (by constructor <;> omega))
        refine va_aldq hx hb hK hP 1 0 rfl rfl h_8 dX2_link_36 ?_
        refine W.eq (g2 := F0 m 37 ls [.null]) rfl ?_
        refine lv_astoreN (lv' := [(5, .null), (4, .null), (0, .ref h0), (1, .int p0), (2, .int p1), (3, .int p2)]) hx hb dX2_link_37 hl (by decide) rfl (fun ls hl => ?_)
        refine lv_aloadN hx hb dX2_link_39 (lv_at hl 1 rfl) ?_
        refine lv_ifnullN (tgt := 60) hx hb dX2_link_41 (by decide) ?_
        refine lv_aloadN hx hb dX2_link_60 (lv_at hl 0 rfl) ?_
        refine lv_ifnullN (tgt := 80) hx hb dX2_link_62 (by decide) ?_
        refine lv_aloadN hx hb dX2_link_80 (lv_at hl 1 rfl) ?_
        refine lv_ifnonnullN hx hb dX2_link_82 ?_
        refine lv_bipush (v := (-11)) hx hb dX2_link_85 (by decide) ?_
        exact W.iret (v := (-11)) hx hb hr (fun t ht hW => ⟨⟨(-11), (), rfl, (show (-11) = sp_link p0 p1 p2 from by unfold sp_link; (repeat' split) <;> first | rfl | (exfalso; omega)), trivial⟩, hS.F ht⟩) hS.2.2 dX2_link_87
      · refine lv_if_ne (tgt := 23) hx hb dX2_link_18 (by decide) (fun c9 => absurd c9 (by decide)) (fun _ => ?_)
        refine lv_iconst (v := (-1)) hx hb dX2_link_21 (by decide) ?_
        exact W.iret (v := (-1)) hx hb hr (fun t ht hW => ⟨⟨(-1), (), rfl, (show (-1) = sp_link p0 p1 p2 from by unfold sp_link; (repeat' split) <;> first | rfl | (exfalso; omega)), trivial⟩, hS.F ht⟩) hS.2.2 dX2_link_22
    · refine lv_if_eq (tgt := 21) hx hb dX2_link_11 (by decide) (fun _ => ?_) (fun c9 => absurd c9 (by decide))
      refine lv_iconst (v := (-1)) hx hb dX2_link_21 (by decide) ?_
      exact W.iret (v := (-1)) hx hb hr (fun t ht hW => ⟨⟨(-1), (), rfl, (show (-1) = sp_link p0 p1 p2 from by unfold sp_link; (repeat' split) <;> first | rfl | (exfalso; omega)), trivial⟩, hS.F ht⟩) hS.2.2 dX2_link_22
  · refine lv_if_eq (tgt := 21) hx hb dX2_link_4 (by decide) (fun _ => ?_) (fun c9 => absurd c9 (by decide))
    refine lv_iconst (v := (-1)) hx hb dX2_link_21 (by decide) ?_
    exact W.iret (v := (-1)) hx hb hr (fun t ht hW => ⟨⟨(-1), (), rfl, (show (-1) = sp_link p0 p1 p2 from by unfold sp_link; (repeat' split) <;> first | rfl | (exfalso; omega)), trivial⟩, hS.F ht⟩) hS.2.2 dX2_link_22
set_option maxRecDepth 20000 in
theorem in_c_X2_follow_X2 : ∀ w ∈ u_ws RX2 TX2 9, w ∈ wsX2_follow := by decide +kernel
set_option maxRecDepth 100000 in
set_option maxHeartbeats 4000000 in
theorem c_X2_follow (l : Launch) (dC : Nat → ClassId) (dI : Nat → Nat → Nat) (TT : Nat × Nat × Nat) (sz : Nat) (h0 h1 h2 h3 h4 h5 h6 a1 a2 a3 : Nat) (kT : ClassId) (p0 : Int32) (p1 : Int32) (p2 : Int32) : Met l yX2_follow wsX2_follow ({ frames := 2, cells := 0, slots := 0, locals := 40 } : Room) (va_Pc [.ref h0, .int p0, .int p1, .int p2] (pr dC dI [(h0, .inr (2, [.ref h1, .int 0, .ref h2, .ref h3, .ref h4, .ref h5, .int 0, .ref h6, .int 0])), (h1, .inl (kT, 12, .inr (.inr (.inr (.inr (fun _ => none)))))), (h2, .inr (0, [.ref a1, .ref a2, .ref a3, .int 0]))] [(h0, .inr (2, [.ref h1, .int 0, .ref h2, .ref h3, .ref h4, .ref h5, .int 0, .ref h6, .int 0])), (h1, .inl (kT, 12, .inr (.inr (.inr (.inr (fun _ => none)))))), (h2, .inr (0, [.ref a1, .ref a2, .ref a3, .int 0]))] [(kT, .object RX1)] sz TT)) (va_Qi (fun (r : Int32) (u : Unit) => r = sp_follow p0 p1 p2) (fun _ _ => True) (va_A [(h0, .inr (2, [.ref h1, .int 0, .ref h2, .ref h3, .ref h4, .ref h5, .int 0, .ref h6, .int 0])), (h1, .inl (kT, 12, .inr (.inr (.inr (.inr (fun _ => none)))))), (h2, .inr (0, [.ref a1, .ref a2, .ref a3, .int 0]))] sz)) 0 0 (va_A [(h0, .inr (2, [.ref h1, .int 0, .ref h2, .ref h3, .ref h4, .ref h5, .int 0, .ref h6, .int 0])), (h1, .inl (kT, 12, .inr (.inr (.inr (.inr (fun _ => none)))))), (h2, .inr (0, [.ref a1, .ref a2, .ref a3, .int 0]))] sz) := by
  refine Met.ofW (cc := cX2_follow) (maxL := 6) (ret := (some .int)) (by decide) rfl ?_
  intro p e s m args below meth c s₁ B hml hv
  obtain ⟨rfl, hsz, hP, hK, hD0, hst⟩ := hv
  have hx := B.exec
  have hb := B.bytes
  have hr := B.returns
  have hts := atoms_spec (ws := wsX2_follow) B.pre
  have hown : s.vm.findClass RX2 = some m.cls := findClass_of_methodNamed B.named
  have hlocks := B.notSynchronized
  have iX2_ := in_c_X2_follow_X2
  subst hsz
  have hD := hD0.self (sz := s.heap.size)
  generalize hAe : va_A [(h0, .inr (2, [.ref h1, .int 0, .ref h2, .ref h3, .ref h4, .ref h5, .int 0, .ref h6, .int 0])), (h1, .inl (kT, 12, .inr (.inr (.inr (.inr (fun _ => none)))))), (h2, .inr (0, [.ref a1, .ref a2, .ref a3, .int 0]))] s.heap.size = A at hD hst ⊢
  have hA : ∀ q : Nat, s.heap.size ≤ q → A q := fun q h => by rw [← hAe]; exact Or.inr h
  have hS : va_S A s.heap s.heap [] := va_S.rf
  have hl := lv_entry ([.ref h0, .int p0, .int p1, .int p2]) (n := 6) (Nat.le_of_ble_eq_true rfl)
  rw [lg_entry_eq]
  generalize (lg_sl ([.ref h0, .int p0, .int p1, .int p2]) ++ List.replicate (6 - (lg_sl ([.ref h0, .int p0, .int p1, .int p2])).length) Slot.unset).toArray = ls at hl ⊢
  have hl : lv_has ls 6 [(0, .ref h0), (1, .int p0), (2, .int p1), (3, .int p2)] := hl
  have km11_ : Int32.toInt (-11) = -11 := by decide
  have km1_ : Int32.toInt (-1) = -1 := by decide
  refine lv_iload_n hx hb dX2_follow_0 rfl (lv_at hl 1 rfl) ?_
  refine va_calli (va_runS (As := [.int p0]) (rest := []) ⟨hx, hb, hml, hown, hts⟩ (c_X2_isSlot l dC dI TT s.heap.size p0) (va_cwS 1 hts gX2_follow_X2_isSlot rfl rfl rfl (by decide +kernel) ⟨Nat.le_of_ble_eq_true rfl, Nat.le_of_ble_eq_true rfl⟩) (pr_S (ws := []) (wA := []) (tys := []) (hP.sub [] rfl) (hK.sub [] rfl) vd_nil hst hS (ro_free hS hA)) rfl rfl hl.1 rfl (lv_room (Nat.le_of_ble_eq_true rfl)) dX2_follow_1 ⟨Nat.le_of_ble_eq_true rfl, Nat.le_of_ble_eq_true rfl⟩) hS (fun q _ h => (ro_free hS hA) q h) (ro_free hS hA) (fun r_1 u t H1 locs ht hvm hw hB hz1 hk1 hS => ?_)
  have hP := ro_keep hP hk1
  generalize H1 = H at hP hS ⊢
  rcases hw with ⟨rfl, hp_2⟩ | ⟨rfl, hp_2⟩
  · refine lv_if_eq (tgt := 21) hx hb dX2_follow_4 (by decide) (fun c9 => absurd c9 (by decide)) (fun _ => ?_)
    refine lv_iload_n hx hb dX2_follow_7 rfl (lv_at hl 2 rfl) ?_
    refine va_calli (va_runS (As := [.int p1]) (rest := []) ⟨hx, hb, hml, hown, hts⟩ (c_X2_isLinkField l dC dI TT H.size p1) (va_cwS 1 hts gX2_follow_X2_isLinkField rfl rfl rfl (by decide +kernel) ⟨Nat.le_of_ble_eq_true rfl, Nat.le_of_ble_eq_true rfl⟩) (pr_S (ws := []) (wA := []) (tys := []) (hP.sub [] rfl) (hK.sub [] rfl) vd_nil hst hS (ro_free hS hA)) rfl rfl hl.1 rfl (lv_room (Nat.le_of_ble_eq_true rfl)) dX2_follow_8 ⟨Nat.le_of_ble_eq_true rfl, Nat.le_of_ble_eq_true rfl⟩) hS (fun q _ h => (ro_free hS hA) q h) (ro_free hS hA) (fun r_3 u t H1 locs ht hvm hw hB hz1 hk1 hS => ?_)
    have hP := ro_keep hP hk1
    generalize H1 = H at hP hS ⊢
    rcases hw with ⟨rfl, hp_4⟩ | ⟨rfl, hp_4⟩
    · refine lv_if_eq (tgt := 21) hx hb dX2_follow_11 (by decide) (fun c9 => absurd c9 (by decide)) (fun _ => ?_)
      refine lv_iload_n hx hb dX2_follow_14 rfl (lv_at hl 3 rfl) ?_
      refine va_calli (va_runS (As := [.int p2]) (rest := []) ⟨hx, hb, hml, hown, hts⟩ (c_X2_isSlot l dC dI TT H.size p2) (va_cwS 1 hts gX2_follow_X2_isSlot rfl rfl rfl (by decide +kernel) ⟨Nat.le_of_ble_eq_true rfl, Nat.le_of_ble_eq_true rfl⟩) (pr_S (ws := []) (wA := []) (tys := []) (hP.sub [] rfl) (hK.sub [] rfl) vd_nil hst hS (ro_free hS hA)) rfl rfl hl.1 rfl (lv_room (Nat.le_of_ble_eq_true rfl)) dX2_follow_15 ⟨Nat.le_of_ble_eq_true rfl, Nat.le_of_ble_eq_true rfl⟩) hS (fun q _ h => (ro_free hS hA) q h) (ro_free hS hA) (fun r_5 u t H1 locs ht hvm hw hB hz1 hk1 hS => ?_)
      have hP := ro_keep hP hk1
      generalize H1 = H at hP hS ⊢
      rcases hw with ⟨rfl, hp_6⟩ | ⟨rfl, hp_6⟩
      · refine lv_if_ne (tgt := 23) hx hb dX2_follow_18 (by decide) (fun _ => ?_) (fun c9 => absurd c9 (by decide))
        refine lv_aload_n hx hb dX2_follow_23 rfl (lv_at hl 0 rfl) ?_
        refine va_get (D := (dC, dI)) (ci := 2) (v := .ref h1) (C := RX2) (T := TX2) (N := 9) hx hb hts iX2_ hown hK hP 0 rfl rfl 0 (by decide) (hts (.fieldLink RX2 11 "FieldLeaves" "slots" "[LFieldLeaves$Thing;") (by decide +kernel)) (fun _ h9 => h9) rfl dX2_follow_24 ?_
        refine lv_iload_n hx hb dX2_follow_27 rfl (lv_at hl 1 rfl) ?_
        have h_7 : vp_in p0 12 := (vp_in_iff.mpr (by constructor <;> omega))
        refine va_aldq hx hb hK hP 1 0 rfl rfl h_7 dX2_follow_28 ?_
        refine W.eq (g2 := F0 m 29 ls [.null]) rfl ?_
        refine lv_astoreN (lv' := [(4, .null), (0, .ref h0), (1, .int p0), (2, .int p1), (3, .int p2)]) hx hb dX2_follow_29 hl (by decide) rfl (fun ls hl => ?_)
        refine lv_aloadN hx hb dX2_follow_31 (lv_at hl 0 rfl) ?_
        refine va_gets (v := .ref TT.2.1) hx hb hst.zO hS hown (hts (.fieldLink RX2 57 "FieldLeaves" "OWNER" "[I") (by decide +kernel)) (fun _ h9 => h9) dX2_follow_33 ?_
        refine lv_iload_n hx hb dX2_follow_36 rfl (lv_at hl 3 rfl) ?_
        have h_8 : vp_in p1 17 := (vp_in_iff.mpr (by constructor <;> omega))
        refine va_ti hx hb hst.tO hS h_8 (v := .int (OWNERt (Int32.toNatClampNeg p1))) rfl dX2_follow_37 ?_
        have fh_8 := OWNERt_is h_8
        refine va_calli (va_runS (As := [.null, .int (OWNERt (Int32.toNatClampNeg p1))]) (rest := []) ⟨hx, hb, hml, hown, hts⟩ (c_X2_failureAs_null l dC dI TT H.size (OWNERt (Int32.toNatClampNeg p1))) (va_cwS 2 hts gX2_follow_X2_failureAs rfl rfl rfl (by decide +kernel) ⟨Nat.le_of_ble_eq_true rfl, Nat.le_of_ble_eq_true rfl⟩) (pr_S (ws := []) (wA := []) (tys := []) (hP.sub [] rfl) (hK.sub [] rfl) vd_nil hst hS (ro_free hS hA)) rfl rfl hl.1 rfl (lv_room (Nat.le_of_ble_eq_true rfl)) dX2_follow_38 ⟨Nat.le_of_ble_eq_true rfl, Nat.le_of_ble_eq_true rfl⟩) hS (fun q _ h => (ro_free hS hA) q h) (ro_free hS hA) (fun r_9 u t H1 locs ht hvm hw hB hz1 hk1 hS => ?_)
        have hP := ro_keep hP hk1
        generalize H1 = H at hP hS ⊢
        subst hw
        refine lv_istore (lv' := [(5, .int (-11)), (4, .null), (0, .ref h0), (1, .int p0), (2, .int p1), (3, .int p2)]) hx hb dX2_follow_41 hl (by decide) rfl (fun ls hl => ?_)
        refine lv_iload hx hb dX2_follow_43 (lv_at hl 0 rfl) ?_
        refine lv_if_eq (tgt := 51) hx hb dX2_follow_45 (by decide) (fun c9 => absurd c9 (by decide)) (fun _ => ?_)
        refine lv_iload hx hb dX2_follow_48 (lv_at hl 0 rfl) ?_
        exact W.iret (v := (-11)) hx hb hr (fun t ht hW => ⟨⟨(-11), (), rfl, (show (-11) = sp_follow p0 p1 p2 from by unfold sp_follow; (repeat' split) <;> first | rfl | (exfalso; omega)), trivial⟩, hS.F ht⟩) hS.2.2 dX2_follow_50
      · refine lv_if_ne (tgt := 23) hx hb dX2_follow_18 (by decide) (fun c9 => absurd c9 (by decide)) (fun _ => ?_)
        refine lv_iconst (v := (-1)) hx hb dX2_follow_21 (by decide) ?_
        exact W.iret (v := (-1)) hx hb hr (fun t ht hW => ⟨⟨(-1), (), rfl, (show (-1) = sp_follow p0 p1 p2 from by unfold sp_follow; (repeat' split) <;> first | rfl | (exfalso; omega)), trivial⟩, hS.F ht⟩) hS.2.2 dX2_follow_22
    · refine lv_if_eq (tgt := 21) hx hb dX2_follow_11 (by decide) (fun _ => ?_) (fun c9 => absurd c9 (by decide))
      refine lv_iconst (v := (-1)) hx hb dX2_follow_21 (by decide) ?_
      exact W.iret (v := (-1)) hx hb hr (fun t ht hW => ⟨⟨(-1), (), rfl, (show (-1) = sp_follow p0 p1 p2 from by unfold sp_follow; (repeat' split) <;> first | rfl | (exfalso; omega)), trivial⟩, hS.F ht⟩) hS.2.2 dX2_follow_22
  · refine lv_if_eq (tgt := 21) hx hb dX2_follow_4 (by decide) (fun _ => ?_) (fun c9 => absurd c9 (by decide))
    refine lv_iconst (v := (-1)) hx hb dX2_follow_21 (by decide) ?_
    exact W.iret (v := (-1)) hx hb hr (fun t ht hW => ⟨⟨(-1), (), rfl, (show (-1) = sp_follow p0 p1 p2 from by unfold sp_follow; (repeat' split) <;> first | rfl | (exfalso; omega)), trivial⟩, hS.F ht⟩) hS.2.2 dX2_follow_22
set_option maxRecDepth 20000 in
theorem in_c_X2_row_X2 : ∀ w ∈ u_ws RX2 TX2 9, w ∈ wsX2_row := by decide +kernel
set_option maxRecDepth 100000 in
set_option maxHeartbeats 4000000 in
theorem c_X2_row (l : Launch) (dC : Nat → ClassId) (dI : Nat → Nat → Nat) (TT : Nat × Nat × Nat) (sz : Nat) (h0 h1 h2 h3 h4 h5 h6 a1 a2 a3 : Nat) (kT : ClassId) (p0 : Int32) (p1 : Int32) : Met l yX2_row wsX2_row ({ frames := 1, cells := 0, slots := 0, locals := 20 } : Room) (va_Pc [.ref h0, .int p0, .int p1] (pr dC dI [(h0, .inr (2, [.ref h1, .int 0, .ref h2, .ref h3, .ref h4, .ref h5, .int 0, .ref h6, .int 0])), (h1, .inl (kT, 12, .inr (.inr (.inr (.inr (fun _ => none)))))), (h2, .inr (0, [.ref a1, .ref a2, .ref a3, .int 0]))] [(h0, .inr (2, [.ref h1, .int 0, .ref h2, .ref h3, .ref h4, .ref h5, .int 0, .ref h6, .int 0])), (h1, .inl (kT, 12, .inr (.inr (.inr (.inr (fun _ => none)))))), (h2, .inr (0, [.ref a1, .ref a2, .ref a3, .int 0]))] [(kT, .object RX1)] sz TT)) (va_Qi (fun (r : Int32) (u : Unit) => r = sp_row p0 p1) (fun _ _ => True) (va_A [(h0, .inr (2, [.ref h1, .int 0, .ref h2, .ref h3, .ref h4, .ref h5, .int 0, .ref h6, .int 0])), (h1, .inl (kT, 12, .inr (.inr (.inr (.inr (fun _ => none)))))), (h2, .inr (0, [.ref a1, .ref a2, .ref a3, .int 0]))] sz)) 0 0 (va_A [(h0, .inr (2, [.ref h1, .int 0, .ref h2, .ref h3, .ref h4, .ref h5, .int 0, .ref h6, .int 0])), (h1, .inl (kT, 12, .inr (.inr (.inr (.inr (fun _ => none)))))), (h2, .inr (0, [.ref a1, .ref a2, .ref a3, .int 0]))] sz) := by
  refine Met.ofW (cc := cX2_row) (maxL := 4) (ret := (some .int)) (by decide) rfl ?_
  intro p e s m args below meth c s₁ B hml hv
  obtain ⟨rfl, hsz, hP, hK, hD0, hst⟩ := hv
  have hx := B.exec
  have hb := B.bytes
  have hr := B.returns
  have hts := atoms_spec (ws := wsX2_row) B.pre
  have hown : s.vm.findClass RX2 = some m.cls := findClass_of_methodNamed B.named
  have hlocks := B.notSynchronized
  have iX2_ := in_c_X2_row_X2
  subst hsz
  have hD := hD0.self (sz := s.heap.size)
  generalize hAe : va_A [(h0, .inr (2, [.ref h1, .int 0, .ref h2, .ref h3, .ref h4, .ref h5, .int 0, .ref h6, .int 0])), (h1, .inl (kT, 12, .inr (.inr (.inr (.inr (fun _ => none)))))), (h2, .inr (0, [.ref a1, .ref a2, .ref a3, .int 0]))] s.heap.size = A at hD hst ⊢
  have hA : ∀ q : Nat, s.heap.size ≤ q → A q := fun q h => by rw [← hAe]; exact Or.inr h
  have hS : va_S A s.heap s.heap [] := va_S.rf
  have hl := lv_entry ([.ref h0, .int p0, .int p1]) (n := 4) (Nat.le_of_ble_eq_true rfl)
  rw [lg_entry_eq]
  generalize (lg_sl ([.ref h0, .int p0, .int p1]) ++ List.replicate (4 - (lg_sl ([.ref h0, .int p0, .int p1])).length) Slot.unset).toArray = ls at hl ⊢
  have hl : lv_has ls 4 [(0, .ref h0), (1, .int p0), (2, .int p1)] := hl
  have km13_ : Int32.toInt (-13) = -13 := by decide
  have km11_ : Int32.toInt (-11) = -11 := by decide
  have km4_ : Int32.toInt (-4) = -4 := by decide
  have km1_ : Int32.toInt (-1) = -1 := by decide
  have k0_ : Int32.toInt 0 = 0 := by decide
  have k20_ : Int32.toInt 20 = 20 := by decide
  refine lv_iload_n hx hb dX2_row_0 rfl (lv_at hl 1 rfl) ?_
  refine va_calli (va_runS (As := [.int p0]) (rest := []) ⟨hx, hb, hml, hown, hts⟩ (c_X2_isSlot l dC dI TT s.heap.size p0) (va_cwS 1 hts gX2_row_X2_isSlot rfl rfl rfl (by decide +kernel) ⟨Nat.le_of_ble_eq_true rfl, Nat.le_of_ble_eq_true rfl⟩) (pr_S (ws := []) (wA := []) (tys := []) (hP.sub [] rfl) (hK.sub [] rfl) vd_nil hst hS (ro_free hS hA)) rfl rfl hl.1 rfl (lv_room (Nat.le_of_ble_eq_true rfl)) dX2_row_1 ⟨Nat.le_of_ble_eq_true rfl, Nat.le_of_ble_eq_true rfl⟩) hS (fun q _ h => (ro_free hS hA) q h) (ro_free hS hA) (fun r_1 u t H1 locs ht hvm hw hB hz1 hk1 hS => ?_)
  have hP := ro_keep hP hk1
  generalize H1 = H at hP hS ⊢
  rcases hw with ⟨rfl, hp_2⟩ | ⟨rfl, hp_2⟩
  · refine lv_if_eq (tgt := 13) hx hb dX2_row_4 (by decide) (fun c9 => absurd c9 (by decide)) (fun _ => ?_)
    refine lv_iload_n hx hb dX2_row_7 rfl (lv_at hl 2 rfl) ?_
    refine lv_bipush (v := 20) hx hb dX2_row_8 (by decide) ?_
    refine lv_icmp_le (tgt := 15) hx hb dX2_row_10 (by decide) (fun c_3 => ?_) (fun c_3 => ?_)
    · have c_3 := Int32.le_iff_toInt_le.mp c_3
      refine lv_aload_n hx hb dX2_row_15 rfl (lv_at hl 0 rfl) ?_
      refine va_get (D := (dC, dI)) (ci := 2) (v := .ref h1) (C := RX2) (T := TX2) (N := 9) hx hb hts iX2_ hown hK hP 0 rfl rfl 0 (by decide) (hts (.fieldLink RX2 11 "FieldLeaves" "slots" "[LFieldLeaves$Thing;") (by decide +kernel)) (fun _ h9 => h9) rfl dX2_row_16 ?_
      refine lv_iload_n hx hb dX2_row_19 rfl (lv_at hl 1 rfl) ?_
      have h_4 : vp_in p0 12 := (vp_in_iff.mpr (by constructor <;> omega))
      refine va_aldq hx hb hK hP 1 0 rfl rfl h_4 dX2_row_20 ?_
      refine W.eq (g2 := F0 m 21 ls [.null]) rfl ?_
      refine lv_astore_nN (lv' := [(3, .null), (0, .ref h0), (1, .int p0), (2, .int p1)]) hx hb dX2_row_21 rfl hl (by decide) rfl (fun ls hl => ?_)
      refine lv_aload_nN hx hb dX2_row_22 rfl (lv_at hl 0 rfl) ?_
      refine lv_ifnullN (tgt := 37) hx hb dX2_row_23 (by decide) ?_
      refine lv_iload_n hx hb dX2_row_37 rfl (lv_at hl 3 rfl) ?_
      refine lv_if_ge (tgt := 50) hx hb dX2_row_38 (by decide) (fun c_5 => ?_) (fun c_5 => ?_)
      · have c_5 := Int32.le_iff_toInt_le.mp c_5
        refine lv_aload_nN hx hb dX2_row_50 rfl (lv_at hl 0 rfl) ?_
        refine lv_ifnonnullN hx hb dX2_row_51 ?_
        refine lv_bipush (v := (-11)) hx hb dX2_row_54 (by decide) ?_
        exact W.iret (v := (-11)) hx hb hr (fun t ht hW => ⟨⟨(-11), (), rfl, (show (-11) = sp_row p0 p1 from by unfold sp_row; (repeat' split) <;> first | rfl | (exfalso; omega)), trivial⟩, hS.F ht⟩) hS.2.2 dX2_row_56
      · have c_5 := mt Int32.le_iff_toInt_le.mpr c_5
        refine lv_iload_n hx hb dX2_row_41 rfl (lv_at hl 3 rfl) ?_
        refine lv_bipush (v := (-4)) hx hb dX2_row_42 (by decide) ?_
        refine lv_icmp_eq (tgt := 50) hx hb dX2_row_44 (by decide) (fun c_6 => ?_) (fun c_6 => ?_)
        · have c_6 := congrArg Int32.toInt c_6
          refine lv_aload_nN hx hb dX2_row_50 rfl (lv_at hl 0 rfl) ?_
          refine lv_ifnonnullN hx hb dX2_row_51 ?_
          refine lv_bipush (v := (-11)) hx hb dX2_row_54 (by decide) ?_
          exact W.iret (v := (-11)) hx hb hr (fun t ht hW => ⟨⟨(-11), (), rfl, (show (-11) = sp_row p0 p1 from by unfold sp_row; (repeat' split) <;> first | rfl | (exfalso; omega)), trivial⟩, hS.F ht⟩) hS.2.2 dX2_row_56
        · have c_6 := mt Int32.toInt_inj.mp c_6
          refine lv_bipush (v := (-13)) hx hb dX2_row_47 (by decide) ?_
          exact W.iret (v := (-13)) hx hb hr (fun t ht hW => ⟨⟨(-13), (), rfl, (show (-13) = sp_row p0 p1 from by unfold sp_row; (repeat' split) <;> first | rfl | (exfalso; omega)), trivial⟩, hS.F ht⟩) hS.2.2 dX2_row_49
    · have c_3 := mt Int32.le_iff_toInt_le.mpr c_3
      refine lv_iconst (v := (-1)) hx hb dX2_row_13 (by decide) ?_
      exact W.iret (v := (-1)) hx hb hr (fun t ht hW => ⟨⟨(-1), (), rfl, (show (-1) = sp_row p0 p1 from by unfold sp_row; (repeat' split) <;> first | rfl | (exfalso; omega)), trivial⟩, hS.F ht⟩) hS.2.2 dX2_row_14
  · refine lv_if_eq (tgt := 13) hx hb dX2_row_4 (by decide) (fun _ => ?_) (fun c9 => absurd c9 (by decide))
    refine lv_iconst (v := (-1)) hx hb dX2_row_13 (by decide) ?_
    exact W.iret (v := (-1)) hx hb hr (fun t ht hW => ⟨⟨(-1), (), rfl, (show (-1) = sp_row p0 p1 from by unfold sp_row; (repeat' split) <;> first | rfl | (exfalso; omega)), trivial⟩, hS.F ht⟩) hS.2.2 dX2_row_14
set_option maxRecDepth 20000 in
theorem in_c_X2_put_X2 : ∀ w ∈ u_ws RX2 TX2 9, w ∈ wsX2_put := by decide +kernel
set_option maxRecDepth 100000 in
set_option maxHeartbeats 4000000 in
theorem c_X2_put (l : Launch) (dC : Nat → ClassId) (dI : Nat → Nat → Nat) (TT : Nat × Nat × Nat) (sz : Nat) (h0 h1 h2 h3 h4 h5 h6 a1 a2 a3 : Nat) (kT : ClassId) (p0 : Int32) (p1 : Int32) (p2 : Int32) : Met l yX2_put wsX2_put ({ frames := 2, cells := 0, slots := 0, locals := 42 } : Room) (va_Pc [.ref h0, .int p0, .int p1, .int p2] (pr dC dI [(h0, .inr (2, [.ref h1, .int 0, .ref h2, .ref h3, .ref h4, .ref h5, .int 0, .ref h6, .int 0])), (h1, .inl (kT, 12, .inr (.inr (.inr (.inr (fun _ => none)))))), (h2, .inr (0, [.ref a1, .ref a2, .ref a3, .int 0]))] [(h0, .inr (2, [.ref h1, .int 0, .ref h2, .ref h3, .ref h4, .ref h5, .int 0, .ref h6, .int 0])), (h1, .inl (kT, 12, .inr (.inr (.inr (.inr (fun _ => none)))))), (h2, .inr (0, [.ref a1, .ref a2, .ref a3, .int 0]))] [(kT, .object RX1)] sz TT)) (va_Qi (fun (r : Int32) (u : Unit) => r = sp_put p0 p1 p2) (fun _ _ => True) (va_A [(h0, .inr (2, [.ref h1, .int 0, .ref h2, .ref h3, .ref h4, .ref h5, .int 0, .ref h6, .int 0])), (h1, .inl (kT, 12, .inr (.inr (.inr (.inr (fun _ => none)))))), (h2, .inr (0, [.ref a1, .ref a2, .ref a3, .int 0]))] sz)) 0 0 (va_A [(h0, .inr (2, [.ref h1, .int 0, .ref h2, .ref h3, .ref h4, .ref h5, .int 0, .ref h6, .int 0])), (h1, .inl (kT, 12, .inr (.inr (.inr (.inr (fun _ => none)))))), (h2, .inr (0, [.ref a1, .ref a2, .ref a3, .int 0]))] sz) := by
  refine Met.ofW (cc := cX2_put) (maxL := 7) (ret := (some .int)) (by decide) rfl ?_
  intro p e s m args below meth c s₁ B hml hv
  obtain ⟨rfl, hsz, hP, hK, hD0, hst⟩ := hv
  have hx := B.exec
  have hb := B.bytes
  have hr := B.returns
  have hts := atoms_spec (ws := wsX2_put) B.pre
  have hown : s.vm.findClass RX2 = some m.cls := findClass_of_methodNamed B.named
  have hlocks := B.notSynchronized
  have iX2_ := in_c_X2_put_X2
  subst hsz
  have hD := hD0.self (sz := s.heap.size)
  generalize hAe : va_A [(h0, .inr (2, [.ref h1, .int 0, .ref h2, .ref h3, .ref h4, .ref h5, .int 0, .ref h6, .int 0])), (h1, .inl (kT, 12, .inr (.inr (.inr (.inr (fun _ => none)))))), (h2, .inr (0, [.ref a1, .ref a2, .ref a3, .int 0]))] s.heap.size = A at hD hst ⊢
  have hA : ∀ q : Nat, s.heap.size ≤ q → A q := fun q h => by rw [← hAe]; exact Or.inr h
  have hS : va_S A s.heap s.heap [] := va_S.rf
  have hl := lv_entry ([.ref h0, .int p0, .int p1, .int p2]) (n := 7) (Nat.le_of_ble_eq_true rfl)
  rw [lg_entry_eq]
  generalize (lg_sl ([.ref h0, .int p0, .int p1, .int p2]) ++ List.replicate (7 - (lg_sl ([.ref h0, .int p0, .int p1, .int p2])).length) Slot.unset).toArray = ls at hl ⊢
  have hl : lv_has ls 7 [(0, .ref h0), (1, .int p0), (2, .int p1), (3, .int p2)] := hl
  have km11_ : Int32.toInt (-11) = -11 := by decide
  have km1_ : Int32.toInt (-1) = -1 := by decide
  refine lv_iload_n hx hb dX2_put_0 rfl (lv_at hl 1 rfl) ?_
  refine va_calli (va_runS (As := [.int p0]) (rest := []) ⟨hx, hb, hml, hown, hts⟩ (c_X2_isSlot l dC dI TT s.heap.size p0) (va_cwS 1 hts gX2_put_X2_isSlot rfl rfl rfl (by decide +kernel) ⟨Nat.le_of_ble_eq_true rfl, Nat.le_of_ble_eq_true rfl⟩) (pr_S (ws := []) (wA := []) (tys := []) (hP.sub [] rfl) (hK.sub [] rfl) vd_nil hst hS (ro_free hS hA)) rfl rfl hl.1 rfl (lv_room (Nat.le_of_ble_eq_true rfl)) dX2_put_1 ⟨Nat.le_of_ble_eq_true rfl, Nat.le_of_ble_eq_true rfl⟩) hS (fun q _ h => (ro_free hS hA) q h) (ro_free hS hA) (fun r_1 u t H1 locs ht hvm hw hB hz1 hk1 hS => ?_)
  have hP := ro_keep hP hk1
  generalize H1 = H at hP hS ⊢
  rcases hw with ⟨rfl, hp_2⟩ | ⟨rfl, hp_2⟩
  · refine lv_if_ne (tgt := 9) hx hb dX2_put_4 (by decide) (fun _ => ?_) (fun c9 => absurd c9 (by decide))
    refine lv_aload_n hx hb dX2_put_9 rfl (lv_at hl 0 rfl) ?_
    refine va_get (D := (dC, dI)) (ci := 2) (v := .ref h1) (C := RX2) (T := TX2) (N := 9) hx hb hts iX2_ hown hK hP 0 rfl rfl 0 (by decide) (hts (.fieldLink RX2 11 "FieldLeaves" "slots" "[LFieldLeaves$Thing;") (by decide +kernel)) (fun _ h9 => h9) rfl dX2_put_10 ?_
    refine lv_iload_n hx hb dX2_put_13 rfl (lv_at hl 1 rfl) ?_
    have h_3 : vp_in p0 12 := (vp_in_iff.mpr (by constructor <;> omega))
    refine va_aldq hx hb hK hP 1 0 rfl rfl h_3 dX2_put_14 ?_
    refine W.eq (g2 := F0 m 15 ls [.null]) rfl ?_
    refine lv_astoreN (lv' := [(4, .null), (0, .ref h0), (1, .int p0), (2, .int p1), (3, .int p2)]) hx hb dX2_put_15 hl (by decide) rfl (fun ls hl => ?_)
    refine lv_aloadN hx hb dX2_put_17 (lv_at hl 0 rfl) ?_
    refine va_calli (va_runS (As := [.null]) (rest := []) ⟨hx, hb, hml, hown, hts⟩ (c_X2_failureOfRow_null l dC dI TT H.size ) (va_cwS 1 hts gX2_put_X2_failureOfRow rfl rfl rfl (by decide +kernel) ⟨Nat.le_of_ble_eq_true rfl, Nat.le_of_ble_eq_true rfl⟩) (pr_S (ws := []) (wA := []) (tys := []) (hP.sub [] rfl) (hK.sub [] rfl) vd_nil hst hS (ro_free hS hA)) rfl rfl hl.1 rfl (lv_room (Nat.le_of_ble_eq_true rfl)) dX2_put_19 ⟨Nat.le_of_ble_eq_true rfl, Nat.le_of_ble_eq_true rfl⟩) hS (fun q _ h => (ro_free hS hA) q h) (ro_free hS hA) (fun r_4 u t H1 locs ht hvm hw hB hz1 hk1 hS => ?_)
    have hP := ro_keep hP hk1
    generalize H1 = H at hP hS ⊢
    subst hw
    refine lv_istore (lv' := [(5, .int (-11)), (4, .null), (0, .ref h0), (1, .int p0), (2, .int p1), (3, .int p2)]) hx hb dX2_put_22 hl (by decide) rfl (fun ls hl => ?_)
    refine lv_iload hx hb dX2_put_24 (lv_at hl 0 rfl) ?_
    refine lv_if_eq (tgt := 32) hx hb dX2_put_26 (by decide) (fun c9 => absurd c9 (by decide)) (fun _ => ?_)
    refine lv_iload hx hb dX2_put_29 (lv_at hl 0 rfl) ?_
    exact W.iret (v := (-11)) hx hb hr (fun t ht hW => ⟨⟨(-11), (), rfl, (show (-11) = sp_put p0 p1 p2 from by unfold sp_put; (repeat' split) <;> first | rfl | (exfalso; omega)), trivial⟩, hS.F ht⟩) hS.2.2 dX2_put_31
  · refine lv_if_ne (tgt := 9) hx hb dX2_put_4 (by decide) (fun c9 => absurd c9 (by decide)) (fun _ => ?_)
    refine lv_iconst (v := (-1)) hx hb dX2_put_7 (by decide) ?_
    exact W.iret (v := (-1)) hx hb hr (fun t ht hW => ⟨⟨(-1), (), rfl, (show (-1) = sp_put p0 p1 p2 from by unfold sp_put; (repeat' split) <;> first | rfl | (exfalso; omega)), trivial⟩, hS.F ht⟩) hS.2.2 dX2_put_8
set_option maxRecDepth 20000 in
theorem in_c_X2_length_X2 : ∀ w ∈ u_ws RX2 TX2 9, w ∈ wsX2_length := by decide +kernel
set_option maxRecDepth 100000 in
set_option maxHeartbeats 4000000 in
theorem c_X2_length (l : Launch) (dC : Nat → ClassId) (dI : Nat → Nat → Nat) (TT : Nat × Nat × Nat) (sz : Nat) (h0 h1 h2 h3 h4 h5 h6 a1 a2 a3 : Nat) (kT : ClassId) (p0 : Int32) : Met l yX2_length wsX2_length ({ frames := 2, cells := 0, slots := 0, locals := 42 } : Room) (va_Pc [.ref h0, .int p0] (pr dC dI [(h0, .inr (2, [.ref h1, .int 0, .ref h2, .ref h3, .ref h4, .ref h5, .int 0, .ref h6, .int 0])), (h1, .inl (kT, 12, .inr (.inr (.inr (.inr (fun _ => none)))))), (h2, .inr (0, [.ref a1, .ref a2, .ref a3, .int 0]))] [(h0, .inr (2, [.ref h1, .int 0, .ref h2, .ref h3, .ref h4, .ref h5, .int 0, .ref h6, .int 0])), (h1, .inl (kT, 12, .inr (.inr (.inr (.inr (fun _ => none)))))), (h2, .inr (0, [.ref a1, .ref a2, .ref a3, .int 0]))] [(kT, .object RX1)] sz TT)) (va_Qi (fun (r : Int32) (u : Unit) => r = sp_length p0) (fun _ _ => True) (va_A [(h0, .inr (2, [.ref h1, .int 0, .ref h2, .ref h3, .ref h4, .ref h5, .int 0, .ref h6, .int 0])), (h1, .inl (kT, 12, .inr (.inr (.inr (.inr (fun _ => none)))))), (h2, .inr (0, [.ref a1, .ref a2, .ref a3, .int 0]))] sz)) 0 0 (va_A [(h0, .inr (2, [.ref h1, .int 0, .ref h2, .ref h3, .ref h4, .ref h5, .int 0, .ref h6, .int 0])), (h1, .inl (kT, 12, .inr (.inr (.inr (.inr (fun _ => none)))))), (h2, .inr (0, [.ref a1, .ref a2, .ref a3, .int 0]))] sz) := by
  refine Met.ofW (cc := cX2_length) (maxL := 4) (ret := (some .int)) (by decide) rfl ?_
  intro p e s m args below meth c s₁ B hml hv
  obtain ⟨rfl, hsz, hP, hK, hD0, hst⟩ := hv
  have hx := B.exec
  have hb := B.bytes
  have hr := B.returns
  have hts := atoms_spec (ws := wsX2_length) B.pre
  have hown : s.vm.findClass RX2 = some m.cls := findClass_of_methodNamed B.named
  have hlocks := B.notSynchronized
  have iX2_ := in_c_X2_length_X2
  subst hsz
  have hD := hD0.self (sz := s.heap.size)
  generalize hAe : va_A [(h0, .inr (2, [.ref h1, .int 0, .ref h2, .ref h3, .ref h4, .ref h5, .int 0, .ref h6, .int 0])), (h1, .inl (kT, 12, .inr (.inr (.inr (.inr (fun _ => none)))))), (h2, .inr (0, [.ref a1, .ref a2, .ref a3, .int 0]))] s.heap.size = A at hD hst ⊢
  have hA : ∀ q : Nat, s.heap.size ≤ q → A q := fun q h => by rw [← hAe]; exact Or.inr h
  have hS : va_S A s.heap s.heap [] := va_S.rf
  have hl := lv_entry ([.ref h0, .int p0]) (n := 4) (Nat.le_of_ble_eq_true rfl)
  rw [lg_entry_eq]
  generalize (lg_sl ([.ref h0, .int p0]) ++ List.replicate (4 - (lg_sl ([.ref h0, .int p0])).length) Slot.unset).toArray = ls at hl ⊢
  have hl : lv_has ls 4 [(0, .ref h0), (1, .int p0)] := hl
  have km11_ : Int32.toInt (-11) = -11 := by decide
  have km1_ : Int32.toInt (-1) = -1 := by decide
  refine lv_iload_n hx hb dX2_length_0 rfl (lv_at hl 1 rfl) ?_
  refine va_calli (va_runS (As := [.int p0]) (rest := []) ⟨hx, hb, hml, hown, hts⟩ (c_X2_isSlot l dC dI TT s.heap.size p0) (va_cwS 1 hts gX2_length_X2_isSlot rfl rfl rfl (by decide +kernel) ⟨Nat.le_of_ble_eq_true rfl, Nat.le_of_ble_eq_true rfl⟩) (pr_S (ws := []) (wA := []) (tys := []) (hP.sub [] rfl) (hK.sub [] rfl) vd_nil hst hS (ro_free hS hA)) rfl rfl hl.1 rfl (lv_room (Nat.le_of_ble_eq_true rfl)) dX2_length_1 ⟨Nat.le_of_ble_eq_true rfl, Nat.le_of_ble_eq_true rfl⟩) hS (fun q _ h => (ro_free hS hA) q h) (ro_free hS hA) (fun r_1 u t H1 locs ht hvm hw hB hz1 hk1 hS => ?_)
  have hP := ro_keep hP hk1
  generalize H1 = H at hP hS ⊢
  rcases hw with ⟨rfl, hp_2⟩ | ⟨rfl, hp_2⟩
  · refine lv_if_ne (tgt := 9) hx hb dX2_length_4 (by decide) (fun _ => ?_) (fun c9 => absurd c9 (by decide))
    refine lv_aload_n hx hb dX2_length_9 rfl (lv_at hl 0 rfl) ?_
    refine va_get (D := (dC, dI)) (ci := 2) (v := .ref h1) (C := RX2) (T := TX2) (N := 9) hx hb hts iX2_ hown hK hP 0 rfl rfl 0 (by decide) (hts (.fieldLink RX2 11 "FieldLeaves" "slots" "[LFieldLeaves$Thing;") (by decide +kernel)) (fun _ h9 => h9) rfl dX2_length_10 ?_
    refine lv_iload_n hx hb dX2_length_13 rfl (lv_at hl 1 rfl) ?_
    have h_3 : vp_in p0 12 := (vp_in_iff.mpr (by constructor <;> omega))
    refine va_aldq hx hb hK hP 1 0 rfl rfl h_3 dX2_length_14 ?_
    refine W.eq (g2 := F0 m 15 ls [.null]) rfl ?_
    refine lv_astore_nN (lv' := [(2, .null), (0, .ref h0), (1, .int p0)]) hx hb dX2_length_15 rfl hl (by decide) rfl (fun ls hl => ?_)
    refine lv_aload_nN hx hb dX2_length_16 rfl (lv_at hl 0 rfl) ?_
    refine va_calli (va_runS (As := [.null]) (rest := []) ⟨hx, hb, hml, hown, hts⟩ (c_X2_failureOfRow_null l dC dI TT H.size ) (va_cwS 1 hts gX2_length_X2_failureOfRow rfl rfl rfl (by decide +kernel) ⟨Nat.le_of_ble_eq_true rfl, Nat.le_of_ble_eq_true rfl⟩) (pr_S (ws := []) (wA := []) (tys := []) (hP.sub [] rfl) (hK.sub [] rfl) vd_nil hst hS (ro_free hS hA)) rfl rfl hl.1 rfl (lv_room (Nat.le_of_ble_eq_true rfl)) dX2_length_17 ⟨Nat.le_of_ble_eq_true rfl, Nat.le_of_ble_eq_true rfl⟩) hS (fun q _ h => (ro_free hS hA) q h) (ro_free hS hA) (fun r_4 u t H1 locs ht hvm hw hB hz1 hk1 hS => ?_)
    have hP := ro_keep hP hk1
    generalize H1 = H at hP hS ⊢
    subst hw
    refine lv_istore_n (lv' := [(3, .int (-11)), (2, .null), (0, .ref h0), (1, .int p0)]) hx hb dX2_length_20 rfl hl (by decide) rfl (fun ls hl => ?_)
    refine lv_iload_n hx hb dX2_length_21 rfl (lv_at hl 0 rfl) ?_
    refine lv_if_eq (tgt := 29) hx hb dX2_length_22 (by decide) (fun c9 => absurd c9 (by decide)) (fun _ => ?_)
    refine lv_iload_n hx hb dX2_length_25 rfl (lv_at hl 0 rfl) ?_
    refine lv_goto (tgt := 34) hx hb dX2_length_26 (by decide) ?_
    exact W.iret (v := (-11)) hx hb hr (fun t ht hW => ⟨⟨(-11), (), rfl, (show (-11) = sp_length p0 from by unfold sp_length; (repeat' split) <;> first | rfl | (exfalso; omega)), trivial⟩, hS.F ht⟩) hS.2.2 dX2_length_34
  · refine lv_if_ne (tgt := 9) hx hb dX2_length_4 (by decide) (fun c9 => absurd c9 (by decide)) (fun _ => ?_)
    refine lv_iconst (v := (-1)) hx hb dX2_length_7 (by decide) ?_
    exact W.iret (v := (-1)) hx hb hr (fun t ht hW => ⟨⟨(-1), (), rfl, (show (-1) = sp_length p0 from by unfold sp_length; (repeat' split) <;> first | rfl | (exfalso; omega)), trivial⟩, hS.F ht⟩) hS.2.2 dX2_length_8
