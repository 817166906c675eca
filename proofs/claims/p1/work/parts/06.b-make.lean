set_option maxRecDepth 20000 in
theorem in_c_X2_make_X1 : ∀ w ∈ u_ws RX1 TX1 6, w ∈ wsX2_make := by decide +kernel
set_option maxRecDepth 20000 in
theorem in_c_X2_make_X2 : ∀ w ∈ u_ws RX2 TX2 9, w ∈ wsX2_make := by decide +kernel
set_option maxRecDepth 100000 in
set_option maxHeartbeats 4000000 in
theorem c_X2_make (l : Launch) (dC : Nat → ClassId) (dI : Nat → Nat → Nat) (TT : Nat × Nat × Nat) (sz : Nat) (h0 h1 h2 h3 h4 h5 h6 a1 a2 a3 : Nat) (kT : ClassId) (p0 : Int32) (p1 : Int32) (p2 : Int32) : Met l yX2_make wsX2_make ({ frames := 2, cells := 2, slots := 23, locals := 34 } : Room) (va_Pc [.ref h0, .int p0, .int p1, .int p2] (pr dC dI [(h0, .inr (2, [.ref h1, .int 0, .ref h2, .ref h3, .ref h4, .ref h5, .int 0, .ref h6, .int 0])), (h1, .inl (kT, 12, .inr (.inr (.inr (.inr (fun _ => none)))))), (h2, .inr (0, [.ref a1, .ref a2, .ref a3, .int 0]))] [(h0, .inr (2, [.ref h1, .int 0, .ref h2, .ref h3, .ref h4, .ref h5, .int 0, .ref h6, .int 0])), (h1, .inl (kT, 12, .inr (.inr (.inr (.inr (fun _ => none)))))), (h2, .inr (0, [.ref a1, .ref a2, .ref a3, .int 0]))] [(kT, .object RX1)] sz TT)) (va_Qi (fun (r : Int32) (u : Unit) => r = sp_make p0 p1 p2) (fun _ _ => True) (va_A [(h0, .inr (2, [.ref h1, .int 0, .ref h2, .ref h3, .ref h4, .ref h5, .int 0, .ref h6, .int 0])), (h1, .inl (kT, 12, .inr (.inr (.inr (.inr (fun _ => none)))))), (h2, .inr (0, [.ref a1, .ref a2, .ref a3, .int 0]))] sz)) 2 23 (va_A [(h0, .inr (2, [.ref h1, .int 0, .ref h2, .ref h3, .ref h4, .ref h5, .int 0, .ref h6, .int 0])), (h1, .inl (kT, 12, .inr (.inr (.inr (.inr (fun _ => none)))))), (h2, .inr (0, [.ref a1, .ref a2, .ref a3, .int 0]))] sz) := by
  refine Met.ofW (cc := cX2_make) (maxL := 4) (ret := (some .int)) (by decide) rfl ?_
  intro p e s m args below meth c s₁ B hml hv
  obtain ⟨rfl, hsz, hP, hK, hD0, hst⟩ := hv
  have hx := B.exec
  have hb := B.bytes
  have hr := B.returns
  have hts := atoms_spec (ws := wsX2_make) B.pre
  have hown : s.vm.findClass RX2 = some m.cls := findClass_of_methodNamed B.named
  have hlocks := B.notSynchronized
  have iX1_ := in_c_X2_make_X1
  have iX2_ := in_c_X2_make_X2
  subst hsz
  have hD := hD0.self (sz := s.heap.size)
  generalize hAe : va_A [(h0, .inr (2, [.ref h1, .int 0, .ref h2, .ref h3, .ref h4, .ref h5, .int 0, .ref h6, .int 0])), (h1, .inl (kT, 12, .inr (.inr (.inr (.inr (fun _ => none)))))), (h2, .inr (0, [.ref a1, .ref a2, .ref a3, .int 0]))] s.heap.size = A at hD hst ⊢
  have hA : ∀ q : Nat, s.heap.size ≤ q → A q := fun q h => by rw [← hAe]; exact Or.inr h
  have hS : va_S A s.heap s.heap [] := va_S.rf
  have hl := lv_entry ([.ref h0, .int p0, .int p1, .int p2]) (n := 4) (Nat.le_of_ble_eq_true rfl)
  rw [lg_entry_eq]
  generalize (lg_sl ([.ref h0, .int p0, .int p1, .int p2]) ++ List.replicate (4 - (lg_sl ([.ref h0, .int p0, .int p1, .int p2])).length) Slot.unset).toArray = ls at hl ⊢
  have hl : lv_has ls 4 [(0, .ref h0), (1, .int p0), (2, .int p1), (3, .int p2)] := hl
  have km18_ : Int32.toInt (-18) = -18 := by decide
  have km1_ : Int32.toInt (-1) = -1 := by decide
  have k0_ : Int32.toInt 0 = 0 := by decide
  have k1_ : Int32.toInt 1 = 1 := by decide
  have k4_ : Int32.toInt 4 = 4 := by decide
  refine lv_iload_n hx hb dX2_make_0 rfl (lv_at hl 1 rfl) ?_
  refine va_calli (va_runS (As := [.int p0]) (rest := []) ⟨hx, hb, hml, hown, hts⟩ (c_X2_isSlot l dC dI TT s.heap.size p0) (va_cwS 1 hts gX2_make_X2_isSlot rfl rfl rfl (by decide +kernel) ⟨Nat.le_of_ble_eq_true rfl, Nat.le_of_ble_eq_true rfl⟩) (pr_S (ws := []) (wA := []) (tys := []) (hP.sub [] rfl) (hK.sub [] rfl) vd_nil hst hS (ro_free hS hA)) rfl rfl hl.1 rfl (lv_room (Nat.le_of_ble_eq_true rfl)) dX2_make_1 ⟨Nat.le_of_ble_eq_true rfl, Nat.le_of_ble_eq_true rfl⟩) hS (fun q _ h => (ro_free hS hA) q h) (ro_free hS hA) (fun r_1 u t H1 locs ht hvm hw hB hz1 hk1 hS => ?_)
  have hP := ro_keep hP hk1
  generalize H1 = H at hP hS ⊢
  rcases hw with ⟨rfl, hp_2⟩ | ⟨rfl, hp_2⟩
  · refine lv_if_eq (tgt := 16) hx hb dX2_make_4 (by decide) (fun c9 => absurd c9 (by decide)) (fun _ => ?_)
    refine lv_iload_n hx hb dX2_make_7 rfl (lv_at hl 2 rfl) ?_
    refine lv_if_lt (tgt := 16) hx hb dX2_make_8 (by decide) (fun c_3 => ?_) (fun c_3 => ?_)
    · have c_3 := Int32.lt_iff_toInt_lt.mp c_3
      refine lv_iconst (v := (-1)) hx hb dX2_make_16 (by decide) ?_
      refine W.widen (k := 2) (n := 23) (by decide) (by decide) ?_
      exact W.iret (v := (-1)) hx hb hr (fun t ht hW => ⟨⟨(-1), (), rfl, (show (-1) = sp_make p0 p1 p2 from by unfold sp_make; (repeat' split) <;> first | rfl | (exfalso; omega)), trivial⟩, hS.F ht⟩) hS.2.2 dX2_make_17
    · have c_3 := mt Int32.lt_iff_toInt_lt.mpr c_3
      refine lv_iload_n hx hb dX2_make_11 rfl (lv_at hl 2 rfl) ?_
      refine lv_iconst (v := 4) hx hb dX2_make_12 (by decide) ?_
      refine lv_icmp_le (tgt := 18) hx hb dX2_make_13 (by decide) (fun c_4 => ?_) (fun c_4 => ?_)
      · have c_4 := Int32.le_iff_toInt_le.mp c_4
        refine lv_iload_n hx hb dX2_make_18 rfl (lv_at hl 2 rfl) ?_
        refine lv_iload_n hx hb dX2_make_19 rfl (lv_at hl 3 rfl) ?_
        refine va_calli (va_runS (As := [.int p1, .int p2]) (rest := []) ⟨hx, hb, hml, hown, hts⟩ (c_X2_makerTakes l dC dI TT H.size p1 p2) (va_cwS 2 hts gX2_make_X2_makerTakes rfl rfl rfl (by decide +kernel) ⟨Nat.le_of_ble_eq_true rfl, Nat.le_of_ble_eq_true rfl⟩) (pr_S (ws := []) (wA := []) (tys := []) (hP.sub [] rfl) (hK.sub [] rfl) vd_nil hst hS (ro_free hS hA)) rfl rfl hl.1 rfl (lv_room (Nat.le_of_ble_eq_true rfl)) dX2_make_20 ⟨Nat.le_of_ble_eq_true rfl, Nat.le_of_ble_eq_true rfl⟩) hS (fun q _ h => (ro_free hS hA) q h) (ro_free hS hA) (fun r_5 u t H1 locs ht hvm hw hB hz1 hk1 hS => ?_)
        have hP := ro_keep hP hk1
        generalize H1 = H at hP hS ⊢
        rcases hw with ⟨rfl, hp_6⟩ | ⟨rfl, hp_6⟩
        · refine lv_if_ne (tgt := 29) hx hb dX2_make_23 (by decide) (fun _ => ?_) (fun c9 => absurd c9 (by decide))
          refine lv_aload_n hx hb dX2_make_29 rfl (lv_at hl 0 rfl) ?_
          refine va_get (D := (dC, dI)) (ci := 2) (v := .ref h1) (C := RX2) (T := TX2) (N := 9) hx hb hts iX2_ hown hK hP 0 rfl rfl 0 (by decide) (hts (.fieldLink RX2 11 "FieldLeaves" "slots" "[LFieldLeaves$Thing;") (by decide +kernel)) (fun _ h9 => h9) rfl dX2_make_30 ?_
          refine lv_iload_n hx hb dX2_make_33 rfl (lv_at hl 1 rfl) ?_
          refine va_new (ci := 1) (fs := [.int 0, .null, .null, .null, .null, .null]) (C := RX1) (T := TX1) (N := 6) hx hb hts iX1_ tyX1 tyX1_ok hown (hts (.classLink RX2 9 RX1) (by decide +kernel)) (hts (.instantiable RX1 6) (by decide +kernel)) (hts (.initialized RX1) (by decide +kernel)) hK hP hD hS hA rfl (fun j hj => by rcases (show j = 0 ∨ j = 1 ∨ j = 2 ∨ j = 3 ∨ j = 4 ∨ j = 5 by omega) with rfl | rfl | rfl | rfl | rfl | rfl <;> rfl) (Nat.le_of_ble_eq_true rfl) (Nat.le_of_ble_eq_true rfl) dX2_make_34 (fun q_7 H hP hD hS => ?_)
          have hP : va_P (dC, dI) vwCl [(h0, .inr (2, [.ref h1, .int 0, .ref h2, .ref h3, .ref h4, .ref h5, .int 0, .ref h6, .int 0])), (h1, .inl (kT, 12, .inr (.inr (.inr (.inr (fun _ => none)))))), (h2, .inr (0, [.ref a1, .ref a2, .ref a3, .int 0])), (q_7, .inr (1, [.int 0, .null, .null, .null, .null, .null]))] H := hP
          have hD : va_D A [(h0, .inr (2, [.ref h1, .int 0, .ref h2, .ref h3, .ref h4, .ref h5, .int 0, .ref h6, .int 0])), (h1, .inl (kT, 12, .inr (.inr (.inr (.inr (fun _ => none)))))), (h2, .inr (0, [.ref a1, .ref a2, .ref a3, .int 0])), (q_7, .inr (1, [.int 0, .null, .null, .null, .null, .null]))] := hD
          refine W.widen (k := 1) (n := 6) (by omega) (by omega) ?_
          refine lv_dup hx hb dX2_make_37 rfl ?_
          refine lv_iload_n hx hb dX2_make_38 rfl (lv_at hl 2 rfl) ?_
          refine lv_iload_n hx hb dX2_make_39 rfl (lv_at hl 3 rfl) ?_
          have hFc := va_free (wc := [(q_7, .inr (1, [.int 0, .null, .null, .null, .null, .null]))]) hD hS hA [3] rfl
          have hDt := (hD.sub (ws' := [(q_7, .inr (1, [.int 0, .null, .null, .null, .null, .null]))]) [3] (by decide) rfl).weaken (B := fun _ => True) (fun _ _ _ _ => trivial)
          refine va_callv (va_runI (As := [.int p1, .int p2]) (rest := [.ref q_7, .int p0, .ref h1]) ⟨hx, hb, hml, hown, hts⟩ (c_X1_init l dC dI TT H.size q_7 p1 p2) (cwI 2 hts gX2_make_X1_init rfl rfl rfl (hts (.initialized RX1) (by decide +kernel)) (hts (.methodLink RX2 42 yX1_init) (by decide +kernel)) (hts (.instanceMethod yX1_init) (by decide +kernel)) rfl (by decide +kernel) ⟨Nat.le_of_ble_eq_true rfl, Nat.le_of_ble_eq_true rfl⟩) (pr_S (ws := [(q_7, .inr (1, [.int 0, .null, .null, .null, .null, .null]))]) (wA := [(q_7, .inr (1, [.int 0, .null, .null, .null, .null, .null]))]) (tys := []) (hP.sub [3] rfl) (hK.sub [] rfl) hDt hst hS hFc) rfl rfl hl.1 rfl (lv_room (Nat.le_of_ble_eq_true rfl)) dX2_make_40 ⟨Nat.le_of_ble_eq_true rfl, Nat.le_of_ble_eq_true rfl⟩) hS (fun q _ h => hFc q h) hFc (fun u t H1 locs ht hvm hw hB hz1 hk1 hS => ?_)
          obtain ⟨hP1, hD1⟩ := hB
          rw [ht] at hP1
          obtain ⟨hP, hD⟩ := va_join (wr := [(h0, .inr (2, [.ref h1, .int 0, .ref h2, .ref h3, .ref h4, .ref h5, .int 0, .ref h6, .int 0])), (h1, .inl (kT, 12, .inr (.inr (.inr (.inr (fun _ => none)))))), (h2, .inr (0, [.ref a1, .ref a2, .ref a3, .int 0]))]) (w1 := [(q_7, .inr (1, [.int p1, .ref u, .null, .null, .null, .null]))]) hP hD [3] [0, 1, 2] rfl rfl (by decide) (by decide) hk1 hFc hP1 hD1
          generalize H1 = H at hP hS ⊢
          have hP : va_P (dC, dI) vwCl [(h0, .inr (2, [.ref h1, .int 0, .ref h2, .ref h3, .ref h4, .ref h5, .int 0, .ref h6, .int 0])), (h1, .inl (kT, 12, .inr (.inr (.inr (.inr (fun _ => none)))))), (h2, .inr (0, [.ref a1, .ref a2, .ref a3, .int 0])), (q_7, .inr (1, [.int p1, .ref u, .null, .null, .null, .null]))] H := hP
          have hD : va_D A [(h0, .inr (2, [.ref h1, .int 0, .ref h2, .ref h3, .ref h4, .ref h5, .int 0, .ref h6, .int 0])), (h1, .inl (kT, 12, .inr (.inr (.inr (.inr (fun _ => none)))))), (h2, .inr (0, [.ref a1, .ref a2, .ref a3, .int 0])), (q_7, .inr (1, [.int p1, .ref u, .null, .null, .null, .null]))] := hD
          refine W.widen (k := 2) (n := 23) (by omega) (by omega) ?_
          have h_9 : vp_in p0 12 := (vp_in_iff.mpr (by constructor <;> omega))
          refine va_astq hx hb hK hP hD hS 1 0 3 1 rfl rfl rfl rfl h_9 dX2_make_43 (fun H locs hP hD hS => ?_)
          have hP : va_P (dC, dI) vwCl [(h0, .inr (2, [.ref h1, .int 0, .ref h2, .ref h3, .ref h4, .ref h5, .int 0, .ref h6, .int 0])), (h1, .inl (kT, 12, .inr (.inr (.inr (.inr (va_up (fun _ => none) (Int32.toNatClampNeg p0) (some q_7))))))), (h2, .inr (0, [.ref a1, .ref a2, .ref a3, .int 0])), (q_7, .inr (1, [.int p1, .ref u, .null, .null, .null, .null]))] H := hP
          have hD : va_D A [(h0, .inr (2, [.ref h1, .int 0, .ref h2, .ref h3, .ref h4, .ref h5, .int 0, .ref h6, .int 0])), (h1, .inl (kT, 12, .inr (.inr (.inr (.inr (va_up (fun _ => none) (Int32.toNatClampNeg p0) (some q_7))))))), (h2, .inr (0, [.ref a1, .ref a2, .ref a3, .int 0])), (q_7, .inr (1, [.int p1, .ref u, .null, .null, .null, .null]))] := hD
          refine lv_iconst (v := 1) hx hb dX2_make_44 (by decide) ?_
          refine W.widen (k := 2) (n := 23) (by decide) (by decide) ?_
          exact W.iret (v := 1) hx hb hr (fun t ht hW => ⟨⟨1, (), rfl, (show 1 = sp_make p0 p1 p2 from by unfold sp_make; (repeat' split) <;> first | rfl | (exfalso; omega)), trivial⟩, hS.F ht⟩) hS.2.2 dX2_make_45
        · refine lv_if_ne (tgt := 29) hx hb dX2_make_23 (by decide) (fun c9 => absurd c9 (by decide)) (fun _ => ?_)
          refine lv_bipush (v := (-18)) hx hb dX2_make_26 (by decide) ?_
          refine W.widen (k := 2) (n := 23) (by decide) (by decide) ?_
          exact W.iret (v := (-18)) hx hb hr (fun t ht hW => ⟨⟨(-18), (), rfl, (show (-18) = sp_make p0 p1 p2 from by unfold sp_make; (repeat' split) <;> first | rfl | (exfalso; omega)), trivial⟩, hS.F ht⟩) hS.2.2 dX2_make_28
      · have c_4 := mt Int32.le_iff_toInt_le.mpr c_4
        refine lv_iconst (v := (-1)) hx hb dX2_make_16 (by decide) ?_
        refine W.widen (k := 2) (n := 23) (by decide) (by decide) ?_
        exact W.iret (v := (-1)) hx hb hr (fun t ht hW => ⟨⟨(-1), (), rfl, (show (-1) = sp_make p0 p1 p2 from by unfold sp_make; (repeat' split) <;> first | rfl | (exfalso; omega)), trivial⟩, hS.F ht⟩) hS.2.2 dX2_make_17
  · refine lv_if_eq (tgt := 16) hx hb dX2_make_4 (by decide) (fun _ => ?_) (fun c9 => absurd c9 (by decide))
    refine lv_iconst (v := (-1)) hx hb dX2_make_16 (by decide) ?_
    refine W.widen (k := 2) (n := 23) (by decide) (by decide) ?_
    exact W.iret (v := (-1)) hx hb hr (fun t ht hW => ⟨⟨(-1), (), rfl, (show (-1) = sp_make p0 p1 p2 from by unfold sp_make; (repeat' split) <;> first | rfl | (exfalso; omega)), trivial⟩, hS.F ht⟩) hS.2.2 dX2_make_17
