set_option maxRecDepth 100000 in
set_option maxHeartbeats 4000000 in
theorem u_X1_depth (l : Launch) (dC : Nat → ClassId) (dI : Nat → Nat → Nat) (TT : Nat × Nat × Nat) (sz : Nat) (kT kI kJ : ClassId) (K : Nat → Nat) (L : List Nat) (f : Nat → va_E) (hPI : PI kT kI kJ K L f) (x0 : Nat) (hx0 : isr K L 1 x0) : Met l yX1_depth wsX1_depth ({ frames := 1, cells := 0, slots := 0, locals := 20 } : Room) (va_Pc [.ref x0] (pr dC dI (va_pl L f) [] [(kT, .object RX1), (kI, .int), (kJ, .long)] sz TT)) (va_Qi (fun (r : Int32) (u : Unit) => r.toInt = (dp (g_nx f) 50 (g_nx f x0) : Int)) (fun _ _ => True) (va_A [] sz)) 0 0 (va_A [] sz) := by
  refine Met.ofW (cc := cX1_depth) (maxL := 3) (ret := (some .int)) (by decide) rfl ?_
  intro p e s m args below meth c s₁ B hml hv
  obtain ⟨rfl, hsz, hP, hK, hD0, hst⟩ := hv
  have hx := B.exec
  have hb := B.bytes
  have hr := B.returns
  have hts := atoms_spec (ws := wsX1_depth) B.pre
  have hown : s.vm.findClass RX1 = some m.cls := findClass_of_methodNamed B.named
  have hlocks := B.notSynchronized
  subst hsz
  have hD := hD0.self (sz := s.heap.size)
  generalize hAe : va_A [] s.heap.size = A at hD hst ⊢
  have hA : ∀ q : Nat, s.heap.size ≤ q → A q := fun q h => by rw [← hAe]; exact Or.inr h
  have hS : va_S A s.heap s.heap [] := va_S.rf
  have hl := lv_entry ([.ref x0]) (n := 3) (Nat.le_of_ble_eq_true rfl)
  rw [lg_entry_eq]
  generalize (lg_sl ([.ref x0]) ++ List.replicate (3 - (lg_sl ([.ref x0])).length) Slot.unset).toArray = ls at hl ⊢
  have hl : lv_has ls 3 [(0, .ref x0)] := hl
  have k0_ : Int32.toInt 0 = 0 := by decide
  have k50_ : Int32.toInt 50 = 50 := by decide
  refine W_nameQ (fun Q0 eQ => ?_)
  refine lv_iconst (v := 0) hx hb dX1_depth_0 (by decide) ?_
  refine lv_istore_n (lv' := [(1, .int 0), (0, .ref x0)]) hx hb dX1_depth_1 rfl hl (by decide) rfl (fun ls hl => ?_)
  refine lv_aload_n hx hb dX1_depth_2 rfl (lv_at hl 1 rfl) ?_
  obtain ⟨cn_1, v_1, b_1, m_1, st_1, i_1, e_1, fv_1, fb_1, fm_1, fst_1, fi_1⟩ := hPI.a1 hx0
  obtain ⟨k_1, hk_1⟩ := va_plg hx0.1 e_1
  refine va_callq (va_runV (b := x0) (As := []) (rest := []) ⟨hx, hb, hml, hown, hts⟩ (u_X1_leadsTo l dC dI TT s.heap.size kT kI kJ K L f hPI x0 hx0) (cwV 0 hts gX1_depth_X1_leadsTo rfl rfl rfl (by decide +kernel) ⟨Nat.le_of_ble_eq_true rfl, Nat.le_of_ble_eq_true rfl⟩) ⟨pr_blind, va_recv hK hP (ci := 1) rfl hk_1, (pr_S (ws := va_pl L f) (wA := []) (tys := [(kT, .object RX1), (kI, .int), (kJ, .long)]) hP hK vd_nil hst hS (ro_free hS hA)).2⟩ rfl rfl hl.1 rfl (lv_room (Nat.le_of_ble_eq_true rfl)) dX1_depth_3 ⟨Nat.le_of_ble_eq_true rfl, Nat.le_of_ble_eq_true rfl⟩) hS (fun q _ h => (ro_free hS hA) q h) (ro_free hS hA) (fun r_2 u t H1 locs ht hvm hw hB hz1 hk1 hS => ?_)
  have hP := ro_keep hP hk1
  generalize H1 = H at hP hS ⊢
  obtain ⟨hw, hq_3⟩ := hw
  rcases r_2 with _ | y_4
  · refine W.eq (g2 := F0 m 6 ls [.null]) rfl ?_
    refine lv_astore_nN (lv' := [(2, .null), (1, .int 0), (0, .ref x0)]) hx hb dX1_depth_6 rfl hl (by decide) rfl (fun ls hl => ?_)
    have loop_7 : ∀ (n : Nat) (i1 : Int32)  (o2 : Option Nat) (H : Heap) (locs : List Loc) (ls : Array Slot), opr K L 1 o2 → ((0 ≤ i1.toInt ∧ i1.toInt ≤ 50) ∧ i1.toInt + (dp (g_nx f) (50 - i1.toInt).toNat o2 : Int) = (dp (g_nx f) 50 (g_nx f x0) : Int)) → (50 - i1.toInt).toNat < n → va_P (dC, dI) vwCl (va_pl L f) H → va_S A s.heap H locs → lv_has ls 3 [(2, va_rf o2), (1, .int i1), (0, .ref x0)] → W p l e (headSpec wsX1_depth ({ frames := 1, cells := 0, slots := 0, locals := 20 } : Room)).room s m (([.ref x0] : List Value).toArray) below meth c H locs 0 0 Q0 (F0 m 7 ls []) := by
      intro n
      induction n with
      | zero => intro i1 o2 H locs ls _ _ h9; exact absurd h9 (Nat.not_lt_zero _)
      | succ n ih_7 =>
        intro i1 o2 H locs ls fo2 hI hM hP hS hl
        rcases o2 with _ | y2
        · have hl : lv_has ls 3 [(2, .null), (1, .int i1), (0, .ref x0)] := hl
          refine lv_aload_nN hx hb dX1_depth_7 rfl (lv_at hl 0 rfl) ?_
          refine lv_ifnullN (tgt := 28) hx hb dX1_depth_8 (by decide) ?_
          refine lv_iload_n hx hb dX1_depth_28 rfl (lv_at hl 1 rfl) ?_
          subst eQ
          exact W.iret (v := i1) hx hb hr (fun t ht hW => ⟨⟨i1, (), rfl, dp_end hI.2 (Or.inl rfl), trivial⟩, hS.F ht⟩) hS.2.2 dX1_depth_29
        · have fy2 := fo2 y2 rfl
          have hl : lv_has ls 3 [(2, .ref y2), (1, .int i1), (0, .ref x0)] := hl
          refine lv_aload_n hx hb dX1_depth_7 rfl (lv_at hl 0 rfl) ?_
          refine lv_ifnull hx hb dX1_depth_8 ?_
          refine lv_iload_n hx hb dX1_depth_11 rfl (lv_at hl 1 rfl) ?_
          refine lv_bipush (v := 50) hx hb dX1_depth_12 (by decide) ?_
          refine lv_icmp_ge (tgt := 28) hx hb dX1_depth_14 (by decide) (fun c_5 => ?_) (fun c_5 => ?_)
          · have c_5 := Int32.le_iff_toInt_le.mp c_5
            refine lv_iload_n hx hb dX1_depth_28 rfl (lv_at hl 1 rfl) ?_
            subst eQ
            exact W.iret (v := i1) hx hb hr (fun t ht hW => ⟨⟨i1, (), rfl, dp_end hI.2 (Or.inr (by omega)), trivial⟩, hS.F ht⟩) hS.2.2 dX1_depth_29
          · have c_5 := mt Int32.le_iff_toInt_le.mpr c_5
            obtain ⟨i_6, ei_6⟩ : ∃ y : Int32, y = i1 + 1 := ⟨_, rfl⟩
            refine lv_iinc (v := i_6) (lv' := [(1, .int i_6), (2, .ref y2), (0, .ref x0)]) hx hb dX1_depth_17 hl (k := 1) rfl (by rw [ei_6]; rfl) (by decide) rfl (fun ls hl => ?_)
            have ki_6 := inc_toInt ei_6 (by omega)
            refine lv_aload_n hx hb dX1_depth_20 rfl (lv_at hl 1 rfl) ?_
            obtain ⟨cn_7, v_7, b_7, m_7, st_7, i_7, e_7, fv_7, fb_7, fm_7, fst_7, fi_7⟩ := hPI.a1 fy2
            obtain ⟨k_7, hk_7⟩ := va_plg fy2.1 e_7
            refine va_callq (va_runV (b := y2) (As := []) (rest := []) ⟨hx, hb, hml, hown, hts⟩ (u_X1_leadsTo l dC dI TT H.size kT kI kJ K L f hPI y2 fy2) (cwV 0 hts gX1_depth_X1_leadsTo rfl rfl rfl (by decide +kernel) ⟨Nat.le_of_ble_eq_true rfl, Nat.le_of_ble_eq_true rfl⟩) ⟨pr_blind, va_recv hK hP (ci := 1) rfl hk_7, (pr_S (ws := va_pl L f) (wA := []) (tys := [(kT, .object RX1), (kI, .int), (kJ, .long)]) hP hK vd_nil hst hS (ro_free hS hA)).2⟩ rfl rfl hl.1 rfl (lv_room (Nat.le_of_ble_eq_true rfl)) dX1_depth_21 ⟨Nat.le_of_ble_eq_true rfl, Nat.le_of_ble_eq_true rfl⟩) hS (fun q _ h => (ro_free hS hA) q h) (ro_free hS hA) (fun r_8 u t H1 locs ht hvm hw hB hz1 hk1 hS => ?_)
            have hP := ro_keep hP hk1
            generalize H1 = H at hP hS ⊢
            obtain ⟨hw, hq_9⟩ := hw
            rcases r_8 with _ | y_10
            · refine W.eq (g2 := F0 m 24 ls [.null]) rfl ?_
              refine lv_astore_nN (lv' := [(2, .null), (1, .int i_6), (0, .ref x0)]) hx hb dX1_depth_24 rfl hl (by decide) rfl (fun ls hl => ?_)
              refine lv_goto (tgt := 7) hx hb dX1_depth_25 (by decide) ?_
              exact ih_7 i_6 none _ _ _ (fun _ h9 => by cases h9) ⟨by omega, dp_step hI.2 (by omega) ki_6 hq_9⟩ (by omega) hP hS (lv_sub hl [0, 1, 2] rfl)
            · have fy_10 := hw y_10 rfl
              refine W.eq (g2 := F0 m 24 ls [.ref y_10]) rfl ?_
              refine lv_astore_n (lv' := [(2, .ref y_10), (1, .int i_6), (0, .ref x0)]) hx hb dX1_depth_24 rfl hl (by decide) rfl (fun ls hl => ?_)
              refine lv_goto (tgt := 7) hx hb dX1_depth_25 (by decide) ?_
              exact ih_7 i_6 ((some y_10)) _ _ _ (fun _ h9 => by cases h9; exact fy_10) ⟨by omega, dp_step hI.2 (by omega) ki_6 hq_9⟩ (by omega) hP hS (lv_sub hl [0, 1, 2] rfl)
    exact loop_7 51 0 none _ _ _ (fun _ h9 => by cases h9) ⟨by omega, by rw [← hq_3, k0_]; simp⟩ (by omega) hP hS hl
  · have fy_4 := hw y_4 rfl
    refine W.eq (g2 := F0 m 6 ls [.ref y_4]) rfl ?_
    refine lv_astore_n (lv' := [(2, .ref y_4), (1, .int 0), (0, .ref x0)]) hx hb dX1_depth_6 rfl hl (by decide) rfl (fun ls hl => ?_)
    have loop_7 : ∀ (n : Nat) (i1 : Int32)  (o2 : Option Nat) (H : Heap) (locs : List Loc) (ls : Array Slot), opr K L 1 o2 → ((0 ≤ i1.toInt ∧ i1.toInt ≤ 50) ∧ i1.toInt + (dp (g_nx f) (50 - i1.toInt).toNat o2 : Int) = (dp (g_nx f) 50 (g_nx f x0) : Int)) → (50 - i1.toInt).toNat < n → va_P (dC, dI) vwCl (va_pl L f) H → va_S A s.heap H locs → lv_has ls 3 [(2, va_rf o2), (1, .int i1), (0, .ref x0)] → W p l e (headSpec wsX1_depth ({ frames := 1, cells := 0, slots := 0, locals := 20 } : Room)).room s m (([.ref x0] : List Value).toArray) below meth c H locs 0 0 Q0 (F0 m 7 ls []) := by
      intro n
      induction n with
      | zero => intro i1 o2 H locs ls _ _ h9; exact absurd h9 (Nat.not_lt_zero _)
      | succ n ih_7 =>
        intro i1 o2 H locs ls fo2 hI hM hP hS hl
        rcases o2 with _ | y2
        · have hl : lv_has ls 3 [(2, .null), (1, .int i1), (0, .ref x0)] := hl
          refine lv_aload_nN hx hb dX1_depth_7 rfl (lv_at hl 0 rfl) ?_
          refine lv_ifnullN (tgt := 28) hx hb dX1_depth_8 (by decide) ?_
          refine lv_iload_n hx hb dX1_depth_28 rfl (lv_at hl 1 rfl) ?_
          subst eQ
          exact W.iret (v := i1) hx hb hr (fun t ht hW => ⟨⟨i1, (), rfl, dp_end hI.2 (Or.inl rfl), trivial⟩, hS.F ht⟩) hS.2.2 dX1_depth_29
        · have fy2 := fo2 y2 rfl
          have hl : lv_has ls 3 [(2, .ref y2), (1, .int i1), (0, .ref x0)] := hl
          refine lv_aload_n hx hb dX1_depth_7 rfl (lv_at hl 0 rfl) ?_
          refine lv_ifnull hx hb dX1_depth_8 ?_
          refine lv_iload_n hx hb dX1_depth_11 rfl (lv_at hl 1 rfl) ?_
          refine lv_bipush (v := 50) hx hb dX1_depth_12 (by decide) ?_
          refine lv_icmp_ge (tgt := 28) hx hb dX1_depth_14 (by decide) (fun c_11 => ?_) (fun c_11 => ?_)
          · have c_11 := Int32.le_iff_toInt_le.mp c_11
            refine lv_iload_n hx hb dX1_depth_28 rfl (lv_at hl 1 rfl) ?_
            subst eQ
            exact W.iret (v := i1) hx hb hr (fun t ht hW => ⟨⟨i1, (), rfl, dp_end hI.2 (Or.inr (by omega)), trivial⟩, hS.F ht⟩) hS.2.2 dX1_depth_29
          · have c_11 := mt Int32.le_iff_toInt_le.mpr c_11
            obtain ⟨i_12, ei_12⟩ : ∃ y : Int32, y = i1 + 1 := ⟨_, rfl⟩
            refine lv_iinc (v := i_12) (lv' := [(1, .int i_12), (2, .ref y2), (0, .ref x0)]) hx hb dX1_depth_17 hl (k := 1) rfl (by rw [ei_12]; rfl) (by decide) rfl (fun ls hl => ?_)
            have ki_12 := inc_toInt ei_12 (by omega)
            refine lv_aload_n hx hb dX1_depth_20 rfl (lv_at hl 1 rfl) ?_
            obtain ⟨cn_13, v_13, b_13, m_13, st_13, i_13, e_13, fv_13, fb_13, fm_13, fst_13, fi_13⟩ := hPI.a1 fy2
            obtain ⟨k_13, hk_13⟩ := va_plg fy2.1 e_13
            refine va_callq (va_runV (b := y2) (As := []) (rest := []) ⟨hx, hb, hml, hown, hts⟩ (u_X1_leadsTo l dC dI TT H.size kT kI kJ K L f hPI y2 fy2) (cwV 0 hts gX1_depth_X1_leadsTo rfl rfl rfl (by decide +kernel) ⟨Nat.le_of_ble_eq_true rfl, Nat.le_of_ble_eq_true rfl⟩) ⟨pr_blind, va_recv hK hP (ci := 1) rfl hk_13, (pr_S (ws := va_pl L f) (wA := []) (tys := [(kT, .object RX1), (kI, .int), (kJ, .long)]) hP hK vd_nil hst hS (ro_free hS hA)).2⟩ rfl rfl hl.1 rfl (lv_room (Nat.le_of_ble_eq_true rfl)) dX1_depth_21 ⟨Nat.le_of_ble_eq_true rfl, Nat.le_of_ble_eq_true rfl⟩) hS (fun q _ h => (ro_free hS hA) q h) (ro_free hS hA) (fun r_14 u t H1 locs ht hvm hw hB hz1 hk1 hS => ?_)
            have hP := ro_keep hP hk1
            generalize H1 = H at hP hS ⊢
            obtain ⟨hw, hq_15⟩ := hw
            rcases r_14 with _ | y_16
            · refine W.eq (g2 := F0 m 24 ls [.null]) rfl ?_
              refine lv_astore_nN (lv' := [(2, .null), (1, .int i_12), (0, .ref x0)]) hx hb dX1_depth_24 rfl hl (by decide) rfl (fun ls hl => ?_)
              refine lv_goto (tgt := 7) hx hb dX1_depth_25 (by decide) ?_
              exact ih_7 i_12 none _ _ _ (fun _ h9 => by cases h9) ⟨by omega, dp_step hI.2 (by omega) ki_12 hq_15⟩ (by omega) hP hS (lv_sub hl [0, 1, 2] rfl)
            · have fy_16 := hw y_16 rfl
              refine W.eq (g2 := F0 m 24 ls [.ref y_16]) rfl ?_
              refine lv_astore_n (lv' := [(2, .ref y_16), (1, .int i_12), (0, .ref x0)]) hx hb dX1_depth_24 rfl hl (by decide) rfl (fun ls hl => ?_)
              refine lv_goto (tgt := 7) hx hb dX1_depth_25 (by decide) ?_
              exact ih_7 i_12 ((some y_16)) _ _ _ (fun _ h9 => by cases h9; exact fy_16) ⟨by omega, dp_step hI.2 (by omega) ki_12 hq_15⟩ (by omega) hP hS (lv_sub hl [0, 1, 2] rfl)
    exact loop_7 51 0 ((some y_4)) _ _ _ (fun _ h9 => by cases h9; exact fy_4) ⟨by omega, by rw [← hq_3, k0_]; simp⟩ (by omega) hP hS hl
set_option maxRecDepth 20000 in
theorem in_u_X1_kind_X1 : ∀ w ∈ u_ws RX1 TX1 6, w ∈ wsX1_kind := by decide +kernel
set_option maxRecDepth 100000 in
set_option maxHeartbeats 4000000 in
theorem u_X1_kind (l : Launch) (dC : Nat → ClassId) (dI : Nat → Nat → Nat) (TT : Nat × Nat × Nat) (sz : Nat) (kT kI kJ : ClassId) (K : Nat → Nat) (L : List Nat) (f : Nat → va_E) (hPI : PI kT kI kJ K L f) (x0 : Nat) (hx0 : isr K L 1 x0) : Met l yX1_kind wsX1_kind ({ frames := 0, cells := 0, slots := 0, locals := 0 } : Room) (va_Pc [.ref x0] (pr dC dI (va_pl L f) [] [(kT, .object RX1), (kI, .int), (kJ, .long)] sz TT)) (va_Qi (fun (r : Int32) (u : Unit) => r = ks_kind (g_cn f) (fun t => g_lk f t 8) x0) (fun _ _ => True) (va_A [] sz)) 0 0 (va_A [] sz) := by
  refine Met.ofW (cc := cX1_kind) (maxL := 5) (ret := (some .int)) (by decide) rfl ?_
  intro p e s m args below meth c s₁ B hml hv
  obtain ⟨rfl, hsz, hP, hK, hD0, hst⟩ := hv
  have hx := B.exec
  have hb := B.bytes
  have hr := B.returns
  have hts := atoms_spec (ws := wsX1_kind) B.pre
  have hown : s.vm.findClass RX1 = some m.cls := findClass_of_methodNamed B.named
  have hlocks := B.notSynchronized
  have iX1_ := in_u_X1_kind_X1
  subst hsz
  have hD := hD0.self (sz := s.heap.size)
  generalize hAe : va_A [] s.heap.size = A at hD hst ⊢
  have hA : ∀ q : Nat, s.heap.size ≤ q → A q := fun q h => by rw [← hAe]; exact Or.inr h
  have hS : va_S A s.heap s.heap [] := va_S.rf
  have hl := lv_entry ([.ref x0]) (n := 5) (Nat.le_of_ble_eq_true rfl)
  rw [lg_entry_eq]
  generalize (lg_sl ([.ref x0]) ++ List.replicate (5 - (lg_sl ([.ref x0])).length) Slot.unset).toArray = ls at hl ⊢
  have hl : lv_has ls 5 [(0, .ref x0)] := hl
  have k0_ : Int32.toInt 0 = 0 := by decide
  have k1_ : Int32.toInt 1 = 1 := by decide
  have k3_ : Int32.toInt 3 = 3 := by decide
  have k7_ : Int32.toInt 7 = 7 := by decide
  have k8_ : Int32.toInt 8 = 8 := by decide
  refine W_nameQ (fun Q0 eQ => ?_)
  refine lv_aload_n hx hb dX1_kind_0 rfl (lv_at hl 0 rfl) ?_
  obtain ⟨cn_1, v_1, b_1, m_1, st_1, i_1, e_1, fv_1, fb_1, fm_1, fst_1, fi_1⟩ := hPI.a1 hx0
  obtain ⟨k_1, hk_1⟩ := va_plg hx0.1 e_1
  refine va_get (D := (dC, dI)) (ci := 1) (v := .int cn_1) (C := RX1) (T := TX1) (N := 6) hx hb hts iX1_ hown hK hP k_1 hk_1 rfl 0 (by decide) (hts (.fieldLink RX1 15 "FieldLeaves$Thing" "classNumber" "I") (by decide +kernel)) (fun _ h9 => h9) rfl dX1_kind_1 ?_
  refine lv_iconst (v := 3) hx hb dX1_kind_4 (by decide) ?_
  refine lv_icmp_ne (tgt := 11) hx hb dX1_kind_5 (by decide) (fun c_2 => ?_) (fun c_2 => ?_)
  · have c_2 := mt Int32.toInt_inj.mp c_2
    refine lv_iconst (v := 0) hx hb dX1_kind_11 (by decide) ?_
    refine lv_istore_n (lv' := [(1, .int 0), (0, .ref x0)]) hx hb dX1_kind_12 rfl hl (by decide) rfl (fun ls hl => ?_)
    refine lv_iconst (v := 1) hx hb dX1_kind_13 (by decide) ?_
    refine lv_istore_n (lv' := [(2, .int 1), (1, .int 0), (0, .ref x0)]) hx hb dX1_kind_14 rfl hl (by decide) rfl (fun ls hl => ?_)
    refine lv_aload_n hx hb dX1_kind_15 rfl (lv_at hl 2 rfl) ?_
    refine lv_astore_n (lv' := [(3, .ref x0), (2, .int 1), (1, .int 0), (0, .ref x0)]) hx hb dX1_kind_16 rfl hl (by decide) rfl (fun ls hl => ?_)
    refine lv_iconst (v := 0) hx hb dX1_kind_17 (by decide) ?_
    refine lv_istore (lv' := [(4, .int 0), (3, .ref x0), (2, .int 1), (1, .int 0), (0, .ref x0)]) hx hb dX1_kind_18 hl (by decide) rfl (fun ls hl => ?_)
    have loop_20 : ∀ (n : Nat) (i1 : Int32) (i2 : Int32) (i4 : Int32)  (o3 : Option Nat) (H : Heap) (locs : List Loc) (ls : Array Slot), opr K L 1 o3 → ((0 ≤ i4.toInt ∧ i4.toInt ≤ 8) ∧ kd (g_cn f) (fun t => g_lk f t 8) (8 - i4.toInt).toNat o3 i2 i1 = kd (g_cn f) (fun t => g_lk f t 8) 8 (some x0) 1 0) → (8 - i4.toInt).toNat < n → va_P (dC, dI) vwCl (va_pl L f) H → va_S A s.heap H locs → lv_has ls 5 [(4, .int i4), (3, va_rf o3), (2, .int i2), (1, .int i1), (0, .ref x0)] → W p l e (headSpec wsX1_kind ({ frames := 0, cells := 0, slots := 0, locals := 0 } : Room)).room s m (([.ref x0] : List Value).toArray) below meth c H locs 0 0 Q0 (F0 m 20 ls []) := by
      intro n
      induction n with
      | zero => intro i1 i2 i4 o3 H locs ls _ _ h9; exact absurd h9 (Nat.not_lt_zero _)
      | succ n ih_20 =>
        intro i1 i2 i4 o3 H locs ls fo3 hI hM hP hS hl
        rcases o3 with _ | y3
        · have hl : lv_has ls 5 [(4, .int i4), (3, .null), (2, .int i2), (1, .int i1), (0, .ref x0)] := hl
          refine lv_iload hx hb dX1_kind_20 (lv_at hl 0 rfl) ?_
          refine lv_bipush (v := 8) hx hb dX1_kind_22 (by decide) ?_
          refine lv_icmp_ge (tgt := 58) hx hb dX1_kind_24 (by decide) (fun c_3 => ?_) (fun c_3 => ?_)
          · have c_3 := Int32.le_iff_toInt_le.mp c_3
            refine lv_iload_n hx hb dX1_kind_58 rfl (lv_at hl 3 rfl) ?_
            subst eQ
            exact W.iret (v := i1) hx hb hr (fun t ht hW => ⟨⟨i1, (), rfl, (by unfold ks_kind; rw [if_neg (by rw [th_cn e_1]; omega)]; exact kd_end hI.2 (Or.inl rfl)), trivial⟩, hS.F ht⟩) hS.2.2 dX1_kind_59
          · have c_3 := mt Int32.le_iff_toInt_le.mpr c_3
            refine lv_aload_nN hx hb dX1_kind_27 rfl (lv_at hl 1 rfl) ?_
            refine lv_ifnullN (tgt := 58) hx hb dX1_kind_28 (by decide) ?_
            refine lv_iload_n hx hb dX1_kind_58 rfl (lv_at hl 3 rfl) ?_
            subst eQ
            exact W.iret (v := i1) hx hb hr (fun t ht hW => ⟨⟨i1, (), rfl, (by unfold ks_kind; rw [if_neg (by rw [th_cn e_1]; omega)]; exact kd_end hI.2 (Or.inl rfl)), trivial⟩, hS.F ht⟩) hS.2.2 dX1_kind_59
        · have fy3 := fo3 y3 rfl
          have hl : lv_has ls 5 [(4, .int i4), (3, .ref y3), (2, .int i2), (1, .int i1), (0, .ref x0)] := hl
          refine lv_iload hx hb dX1_kind_20 (lv_at hl 0 rfl) ?_
          refine lv_bipush (v := 8) hx hb dX1_kind_22 (by decide) ?_
          refine lv_icmp_ge (tgt := 58) hx hb dX1_kind_24 (by decide) (fun c_4 => ?_) (fun c_4 => ?_)
          · have c_4 := Int32.le_iff_toInt_le.mp c_4
            refine lv_iload_n hx hb dX1_kind_58 rfl (lv_at hl 3 rfl) ?_
            subst eQ
            exact W.iret (v := i1) hx hb hr (fun t ht hW => ⟨⟨i1, (), rfl, (by unfold ks_kind; rw [if_neg (by rw [th_cn e_1]; omega)]; exact kd_end hI.2 (Or.inr (by omega))), trivial⟩, hS.F ht⟩) hS.2.2 dX1_kind_59
          · have c_4 := mt Int32.le_iff_toInt_le.mpr c_4
            refine lv_aload_n hx hb dX1_kind_27 rfl (lv_at hl 1 rfl) ?_
            refine lv_ifnull hx hb dX1_kind_28 ?_
            refine lv_iload_n hx hb dX1_kind_31 rfl (lv_at hl 3 rfl) ?_
            refine lv_iload_n hx hb dX1_kind_32 rfl (lv_at hl 2 rfl) ?_
            refine lv_aload_n hx hb dX1_kind_33 rfl (lv_at hl 1 rfl) ?_
            obtain ⟨cn_5, v_5, b_5, m_5, st_5, i_5, e_5, fv_5, fb_5, fm_5, fst_5, fi_5⟩ := hPI.a1 fy3
            obtain ⟨k_5, hk_5⟩ := va_plg fy3.1 e_5
            refine va_get (D := (dC, dI)) (ci := 1) (v := .int cn_5) (C := RX1) (T := TX1) (N := 6) hx hb hts iX1_ hown hK hP k_5 hk_5 rfl 0 (by decide) (hts (.fieldLink RX1 15 "FieldLeaves$Thing" "classNumber" "I") (by decide +kernel)) (fun _ h9 => h9) rfl dX1_kind_34 ?_
            refine lv_iconst (v := 1) hx hb dX1_kind_37 (by decide) ?_
            refine lv_iadd hx hb dX1_kind_38 ?_
            refine lv_topi (fun z_6 ez_6 => ?_)
            refine lv_imul hx hb dX1_kind_39 ?_
            refine lv_topi (fun z_7 ez_7 => ?_)
            refine lv_iadd hx hb dX1_kind_40 ?_
            refine lv_topi (fun z_8 ez_8 => ?_)
            refine lv_istore_n (lv' := [(1, .int z_8), (4, .int i4), (3, .ref y3), (2, .int i2), (0, .ref x0)]) hx hb dX1_kind_41 rfl hl (by decide) rfl (fun ls hl => ?_)
            refine lv_iload_n hx hb dX1_kind_42 rfl (lv_at hl 3 rfl) ?_
            refine lv_bipush (v := 10) hx hb dX1_kind_43 (by decide) ?_
            refine lv_imul hx hb dX1_kind_45 ?_
            refine lv_topi (fun z_9 ez_9 => ?_)
            refine lv_istore_n (lv' := [(2, .int z_9), (1, .int z_8), (4, .int i4), (3, .ref y3), (0, .ref x0)]) hx hb dX1_kind_46 rfl hl (by decide) rfl (fun ls hl => ?_)
            refine lv_aload_n hx hb dX1_kind_47 rfl (lv_at hl 3 rfl) ?_
            obtain ⟨k_10, hk_10⟩ := va_plg fy3.1 e_5
            refine va_get (D := (dC, dI)) (ci := 1) (v := va_rf b_5) (C := RX1) (T := TX1) (N := 6) hx hb hts iX1_ hown hK hP k_10 hk_10 rfl 2 (by decide) (hts (.fieldLink RX1 19 "FieldLeaves$Thing" "baseLink" "LFieldLeaves$Thing;") (by decide +kernel)) (fun _ h9 => h9) rfl dX1_kind_48 ?_
            rcases b_5 with _ | y_11
            · refine W.eq (g2 := F0 m 51 ls [.null]) rfl ?_
              refine lv_astore_nN (lv' := [(3, .null), (2, .int z_9), (1, .int z_8), (4, .int i4), (0, .ref x0)]) hx hb dX1_kind_51 rfl hl (by decide) rfl (fun ls hl => ?_)
              obtain ⟨i_12, ei_12⟩ : ∃ y : Int32, y = i4 + 1 := ⟨_, rfl⟩
              refine lv_iinc (v := i_12) (lv' := [(4, .int i_12), (3, .null), (2, .int z_9), (1, .int z_8), (0, .ref x0)]) hx hb dX1_kind_52 hl (k := 3) rfl (by rw [ei_12]; rfl) (by decide) rfl (fun ls hl => ?_)
              have ki_12 := inc_toInt ei_12 (by omega)
              refine lv_goto (tgt := 20) hx hb dX1_kind_55 (by decide) ?_
              exact ih_20 z_8 z_9 i_12 none _ _ _ (fun _ h9 => by cases h9) ⟨by omega, kd_step hI.2 (by omega) ki_12 (by have hc0 := congrArg Int32.toInt (th_cn e_1); have hc1 := congrArg Int32.toInt (th_cn e_5); first | (simp only [th_cn e_1, th_pv e_1, th_b e_1, th_m e_1, th_s e_1, th_lk e_1, th_cn e_5, th_pv e_5, th_b e_5, th_m e_5, th_s e_5, th_lk e_5, ez_6, ez_7, ez_8, ez_9, ei_12, cl_0, cl_1, cl_2, cl_4, cl_10, cl_13, cl_16]; done) | (simp only [th_cn e_1, th_pv e_1, th_b e_1, th_m e_1, th_s e_1, th_lk e_1, th_cn e_5, th_pv e_5, th_b e_5, th_m e_5, th_s e_5, th_lk e_5, ez_6, ez_7, ez_8, ez_9, ei_12, cl_0, cl_1, cl_2, cl_4, cl_10, cl_13, cl_16] <;> (repeat' split) <;> first | rfl | (exfalso; omega) | contradiction | (simp only [th_cn e_1, th_pv e_1, th_b e_1, th_m e_1, th_s e_1, th_lk e_1, th_cn e_5, th_pv e_5, th_b e_5, th_m e_5, th_s e_5, th_lk e_5, ez_6, ez_7, ez_8, ez_9, ei_12, cl_0, cl_1, cl_2, cl_4, cl_10, cl_13, cl_16]; done) | (simp_all; done) | (simp_all; simp only [th_cn e_1, th_pv e_1, th_b e_1, th_m e_1, th_s e_1, th_lk e_1, th_cn e_5, th_pv e_5, th_b e_5, th_m e_5, th_s e_5, th_lk e_5, ez_6, ez_7, ez_8, ez_9, ei_12, cl_0, cl_1, cl_2, cl_4, cl_10, cl_13, cl_16]))) (by have hc0 := congrArg Int32.toInt (th_cn e_1); have hc1 := congrArg Int32.toInt (th_cn e_5); first | (simp only [th_cn e_1, th_pv e_1, th_b e_1, th_m e_1, th_s e_1, th_lk e_1, th_cn e_5, th_pv e_5, th_b e_5, th_m e_5, th_s e_5, th_lk e_5, ez_6, ez_7, ez_8, ez_9, ei_12, cl_0, cl_1, cl_2, cl_4, cl_10, cl_13, cl_16]; done) | (simp only [th_cn e_1, th_pv e_1, th_b e_1, th_m e_1, th_s e_1, th_lk e_1, th_cn e_5, th_pv e_5, th_b e_5, th_m e_5, th_s e_5, th_lk e_5, ez_6, ez_7, ez_8, ez_9, ei_12, cl_0, cl_1, cl_2, cl_4, cl_10, cl_13, cl_16] <;> (repeat' split) <;> first | rfl | (exfalso; omega) | contradiction | (simp only [th_cn e_1, th_pv e_1, th_b e_1, th_m e_1, th_s e_1, th_lk e_1, th_cn e_5, th_pv e_5, th_b e_5, th_m e_5, th_s e_5, th_lk e_5, ez_6, ez_7, ez_8, ez_9, ei_12, cl_0, cl_1, cl_2, cl_4, cl_10, cl_13, cl_16]; done) | (simp_all; done) | (simp_all; simp only [th_cn e_1, th_pv e_1, th_b e_1, th_m e_1, th_s e_1, th_lk e_1, th_cn e_5, th_pv e_5, th_b e_5, th_m e_5, th_s e_5, th_lk e_5, ez_6, ez_7, ez_8, ez_9, ei_12, cl_0, cl_1, cl_2, cl_4, cl_10, cl_13, cl_16]))) (by have hc0 := congrArg Int32.toInt (th_cn e_1); have hc1 := congrArg Int32.toInt (th_cn e_5); first | (simp only [th_cn e_1, th_pv e_1, th_b e_1, th_m e_1, th_s e_1, th_lk e_1, th_cn e_5, th_pv e_5, th_b e_5, th_m e_5, th_s e_5, th_lk e_5, ez_6, ez_7, ez_8, ez_9, ei_12, cl_0, cl_1, cl_2, cl_4, cl_10, cl_13, cl_16]; done) | (simp only [th_cn e_1, th_pv e_1, th_b e_1, th_m e_1, th_s e_1, th_lk e_1, th_cn e_5, th_pv e_5, th_b e_5, th_m e_5, th_s e_5, th_lk e_5, ez_6, ez_7, ez_8, ez_9, ei_12, cl_0, cl_1, cl_2, cl_4, cl_10, cl_13, cl_16] <;> (repeat' split) <;> first | rfl | (exfalso; omega) | contradiction | (simp only [th_cn e_1, th_pv e_1, th_b e_1, th_m e_1, th_s e_1, th_lk e_1, th_cn e_5, th_pv e_5, th_b e_5, th_m e_5, th_s e_5, th_lk e_5, ez_6, ez_7, ez_8, ez_9, ei_12, cl_0, cl_1, cl_2, cl_4, cl_10, cl_13, cl_16]; done) | (simp_all; done) | (simp_all; simp only [th_cn e_1, th_pv e_1, th_b e_1, th_m e_1, th_s e_1, th_lk e_1, th_cn e_5, th_pv e_5, th_b e_5, th_m e_5, th_s e_5, th_lk e_5, ez_6, ez_7, ez_8, ez_9, ei_12, cl_0, cl_1, cl_2, cl_4, cl_10, cl_13, cl_16])))⟩ (by omega) hP hS (lv_sub hl [0, 1, 2, 3, 4] rfl)
            · have fy_11 := fb_5 y_11 rfl
              refine W.eq (g2 := F0 m 51 ls [.ref y_11]) rfl ?_
              refine lv_astore_n (lv' := [(3, .ref y_11), (2, .int z_9), (1, .int z_8), (4, .int i4), (0, .ref x0)]) hx hb dX1_kind_51 rfl hl (by decide) rfl (fun ls hl => ?_)
              obtain ⟨i_13, ei_13⟩ : ∃ y : Int32, y = i4 + 1 := ⟨_, rfl⟩
              refine lv_iinc (v := i_13) (lv' := [(4, .int i_13), (3, .ref y_11), (2, .int z_9), (1, .int z_8), (0, .ref x0)]) hx hb dX1_kind_52 hl (k := 3) rfl (by rw [ei_13]; rfl) (by decide) rfl (fun ls hl => ?_)
              have ki_13 := inc_toInt ei_13 (by omega)
              refine lv_goto (tgt := 20) hx hb dX1_kind_55 (by decide) ?_
              exact ih_20 z_8 z_9 i_13 ((some y_11)) _ _ _ (fun _ h9 => by cases h9; exact fy_11) ⟨by omega, kd_step hI.2 (by omega) ki_13 (by have hc0 := congrArg Int32.toInt (th_cn e_1); have hc1 := congrArg Int32.toInt (th_cn e_5); first | (simp only [th_cn e_1, th_pv e_1, th_b e_1, th_m e_1, th_s e_1, th_lk e_1, th_cn e_5, th_pv e_5, th_b e_5, th_m e_5, th_s e_5, th_lk e_5, ez_6, ez_7, ez_8, ez_9, ei_13, cl_0, cl_1, cl_2, cl_4, cl_10, cl_13, cl_16]; done) | (simp only [th_cn e_1, th_pv e_1, th_b e_1, th_m e_1, th_s e_1, th_lk e_1, th_cn e_5, th_pv e_5, th_b e_5, th_m e_5, th_s e_5, th_lk e_5, ez_6, ez_7, ez_8, ez_9, ei_13, cl_0, cl_1, cl_2, cl_4, cl_10, cl_13, cl_16] <;> (repeat' split) <;> first | rfl | (exfalso; omega) | contradiction | (simp only [th_cn e_1, th_pv e_1, th_b e_1, th_m e_1, th_s e_1, th_lk e_1, th_cn e_5, th_pv e_5, th_b e_5, th_m e_5, th_s e_5, th_lk e_5, ez_6, ez_7, ez_8, ez_9, ei_13, cl_0, cl_1, cl_2, cl_4, cl_10, cl_13, cl_16]; done) | (simp_all; done) | (simp_all; simp only [th_cn e_1, th_pv e_1, th_b e_1, th_m e_1, th_s e_1, th_lk e_1, th_cn e_5, th_pv e_5, th_b e_5, th_m e_5, th_s e_5, th_lk e_5, ez_6, ez_7, ez_8, ez_9, ei_13, cl_0, cl_1, cl_2, cl_4, cl_10, cl_13, cl_16]))) (by have hc0 := congrArg Int32.toInt (th_cn e_1); have hc1 := congrArg Int32.toInt (th_cn e_5); first | (simp only [th_cn e_1, th_pv e_1, th_b e_1, th_m e_1, th_s e_1, th_lk e_1, th_cn e_5, th_pv e_5, th_b e_5, th_m e_5, th_s e_5, th_lk e_5, ez_6, ez_7, ez_8, ez_9, ei_13, cl_0, cl_1, cl_2, cl_4, cl_10, cl_13, cl_16]; done) | (simp only [th_cn e_1, th_pv e_1, th_b e_1, th_m e_1, th_s e_1, th_lk e_1, th_cn e_5, th_pv e_5, th_b e_5, th_m e_5, th_s e_5, th_lk e_5, ez_6, ez_7, ez_8, ez_9, ei_13, cl_0, cl_1, cl_2, cl_4, cl_10, cl_13, cl_16] <;> (repeat' split) <;> first | rfl | (exfalso; omega) | contradiction | (simp only [th_cn e_1, th_pv e_1, th_b e_1, th_m e_1, th_s e_1, th_lk e_1, th_cn e_5, th_pv e_5, th_b e_5, th_m e_5, th_s e_5, th_lk e_5, ez_6, ez_7, ez_8, ez_9, ei_13, cl_0, cl_1, cl_2, cl_4, cl_10, cl_13, cl_16]; done) | (simp_all; done) | (simp_all; simp only [th_cn e_1, th_pv e_1, th_b e_1, th_m e_1, th_s e_1, th_lk e_1, th_cn e_5, th_pv e_5, th_b e_5, th_m e_5, th_s e_5, th_lk e_5, ez_6, ez_7, ez_8, ez_9, ei_13, cl_0, cl_1, cl_2, cl_4, cl_10, cl_13, cl_16]))) (by have hc0 := congrArg Int32.toInt (th_cn e_1); have hc1 := congrArg Int32.toInt (th_cn e_5); first | (simp only [th_cn e_1, th_pv e_1, th_b e_1, th_m e_1, th_s e_1, th_lk e_1, th_cn e_5, th_pv e_5, th_b e_5, th_m e_5, th_s e_5, th_lk e_5, ez_6, ez_7, ez_8, ez_9, ei_13, cl_0, cl_1, cl_2, cl_4, cl_10, cl_13, cl_16]; done) | (simp only [th_cn e_1, th_pv e_1, th_b e_1, th_m e_1, th_s e_1, th_lk e_1, th_cn e_5, th_pv e_5, th_b e_5, th_m e_5, th_s e_5, th_lk e_5, ez_6, ez_7, ez_8, ez_9, ei_13, cl_0, cl_1, cl_2, cl_4, cl_10, cl_13, cl_16] <;> (repeat' split) <;> first | rfl | (exfalso; omega) | contradiction | (simp only [th_cn e_1, th_pv e_1, th_b e_1, th_m e_1, th_s e_1, th_lk e_1, th_cn e_5, th_pv e_5, th_b e_5, th_m e_5, th_s e_5, th_lk e_5, ez_6, ez_7, ez_8, ez_9, ei_13, cl_0, cl_1, cl_2, cl_4, cl_10, cl_13, cl_16]; done) | (simp_all; done) | (simp_all; simp only [th_cn e_1, th_pv e_1, th_b e_1, th_m e_1, th_s e_1, th_lk e_1, th_cn e_5, th_pv e_5, th_b e_5, th_m e_5, th_s e_5, th_lk e_5, ez_6, ez_7, ez_8, ez_9, ei_13, cl_0, cl_1, cl_2, cl_4, cl_10, cl_13, cl_16])))⟩ (by omega) hP hS (lv_sub hl [0, 1, 2, 3, 4] rfl)
    exact loop_20 9 0 1 0 ((some x0)) _ _ _ (fun _ h9 => by cases h9; exact hx0) ⟨by omega, by rw [k0_]; rfl⟩ (by omega) hP hS hl
  · have c_2 := congrArg Int32.toInt c_2
    refine lv_bipush (v := 7) hx hb dX1_kind_8 (by decide) ?_
    subst eQ
    exact W.iret (v := 7) hx hb hr (fun t ht hW => ⟨⟨7, (), rfl, (by have hc0 := congrArg Int32.toInt (th_cn e_1); first | (simp only [ks_kind, th_cn e_1, th_pv e_1, th_b e_1, th_m e_1, th_s e_1, th_lk e_1, cl_0, cl_1, cl_2, cl_4, cl_10, cl_13, cl_16]; done) | (simp only [ks_kind, th_cn e_1, th_pv e_1, th_b e_1, th_m e_1, th_s e_1, th_lk e_1, cl_0, cl_1, cl_2, cl_4, cl_10, cl_13, cl_16] <;> (repeat' split) <;> first | rfl | (exfalso; omega) | contradiction | (simp only [ks_kind, th_cn e_1, th_pv e_1, th_b e_1, th_m e_1, th_s e_1, th_lk e_1, cl_0, cl_1, cl_2, cl_4, cl_10, cl_13, cl_16]; done) | (simp_all; done) | (simp_all; simp only [ks_kind, th_cn e_1, th_pv e_1, th_b e_1, th_m e_1, th_s e_1, th_lk e_1, cl_0, cl_1, cl_2, cl_4, cl_10, cl_13, cl_16]))), trivial⟩, hS.F ht⟩) hS.2.2 dX1_kind_10

