set_option maxRecDepth 100000 in
set_option maxHeartbeats 4000000 in
theorem t_X2_tellRow (l : Launch) (dC : Nat → ClassId) (dI : Nat → Nat → Nat) (TT : Nat × Nat × Nat) (sz : Nat) (kT kI kJ : ClassId) (K : Nat → Nat) (L : List Nat) (f : Nat → va_E) (hPI : PI kT kI kJ K L f) (n0 : Int32) (x0 : Nat) (hx0 : isr K L 4 x0) (y0 : Nat) (hy0 : isr K L 0 y0) : Met l yX2_tellRow wsX2_tellRow ({ frames := 1, cells := 0, slots := 0, locals := 24 } : Room) (va_Pc [.int n0, .ref x0, .ref y0] (pr dC dI (va_pl L f) (va_pl L f) [(kT, .object RX1), (kI, .int), (kJ, .long)] sz TT)) (va_Qi (fun (r : Int32) (u : Unit) => r01 r) (fun (_ : Unit) t => ∃ f2 : Nat → va_E, PI kT kI kJ K L f2 ∧ (FR sL K L f f2) ∧ va_P (dC, dI) vwCl (va_pl L f2) t.heap ∧ va_D (va_A (va_pl L f) sz) (va_pl L f2)) (va_A (va_pl L f) sz)) 0 0 (va_A (va_pl L f) sz) := by
  refine Met.ofW (cc := cX2_tellRow) (maxL := 5) (ret := (some .boolean)) (by decide) rfl ?_
  intro p e s m args below meth c s₁ B hml hv
  obtain ⟨rfl, hsz, hP, hK, hD0, hst⟩ := hv
  have hx := B.exec
  have hb := B.bytes
  have hr := B.returns
  have hts := atoms_spec (ws := wsX2_tellRow) B.pre
  have hown : s.vm.findClass RX2 = some m.cls := findClass_of_methodNamed B.named
  have hlocks := B.notSynchronized
  subst hsz
  have hD := hD0.self (sz := s.heap.size)
  generalize hAe : va_A (va_pl L f) s.heap.size = A at hD hst ⊢
  have hA : ∀ q : Nat, s.heap.size ≤ q → A q := fun q h => by rw [← hAe]; exact Or.inr h
  have hS : va_S A s.heap s.heap [] := va_S.rf
  have hl := lv_entry ([.int n0, .ref x0, .ref y0]) (n := 5) (Nat.le_of_ble_eq_true rfl)
  rw [lg_entry_eq]
  generalize (lg_sl ([.int n0, .ref x0, .ref y0]) ++ List.replicate (5 - (lg_sl ([.int n0, .ref x0, .ref y0])).length) Slot.unset).toArray = ls at hl ⊢
  have hl : lv_has ls 5 [(0, .int n0), (1, .ref x0), (2, .ref y0)] := hl
  have k0_ : Int32.toInt 0 = 0 := by decide
  have k1_ : Int32.toInt 1 = 1 := by decide
  have k9_ : Int32.toInt 9 = 9 := by decide
  have hfr : FR sL K L f f := FR.rf
  refine W_nameQ (fun Q0 eQ => ?_)
  refine lv_aload_n hx hb dX2_tellRow_0 rfl (lv_at hl 2 rfl) ?_
  refine lv_iload_n hx hb dX2_tellRow_1 rfl (lv_at hl 0 rfl) ?_
  refine lv_bipush (v := 9) hx hb dX2_tellRow_2 (by decide) ?_
  refine lv_aload_n hx hb dX2_tellRow_4 rfl (lv_at hl 1 rfl) ?_
  obtain ⟨n_1, g_1, e_1, fn_1⟩ := hPI.a4 hx0
  have kn_1 := nI_len fn_1
  obtain ⟨k_1, hk_1⟩ := va_plg hx0.1 e_1
  refine va_alen hx hb hK hP k_1 1 hk_1 rfl (v := Int32.ofNat n_1) rfl dX2_tellRow_5 ?_
  refine lv_i2l (v := Int32.toInt64 (Int32.ofNat n_1)) hx hb dX2_tellRow_6 rfl ?_
  have k_z_2 := Int32.toInt_toInt64 (Int32.ofNat n_1)
  have hFc := pl_free hD hS hA
  obtain ⟨n_3, d_3, v_3, z_3, e_3, fn_3, fd_3, fv_3, fz_3⟩ := hPI.a0 hy0
  obtain ⟨k_3, hk_3⟩ := va_plg hy0.1 e_3
  refine va_calli (va_runV (b := y0) (As := [.int n0, .int 9, .long (Int32.toInt64 (Int32.ofNat n_1))]) (rest := []) ⟨hx, hb, hml, hown, hts⟩ (t_X0_add l dC dI TT s.heap.size kT kI kJ K L f hPI y0 hy0 n0 9 (Int32.toInt64 (Int32.ofNat n_1))) (cwV 3 hts gX2_tellRow_X0_add rfl rfl rfl (by decide +kernel) ⟨Nat.le_of_ble_eq_true rfl, Nat.le_of_ble_eq_true rfl⟩) ⟨pr_blind, va_recv hK hP (ci := 0) rfl hk_3, (pr_S (ws := va_pl L f) (wA := va_pl L f) (tys := [(kT, .object RX1), (kI, .int), (kJ, .long)]) hP hK (hD.weaken (fun _ _ _ _ => trivial)) hst hS hFc).2⟩ rfl rfl hl.1 rfl (lv_room (Nat.le_of_ble_eq_true rfl)) dX2_tellRow_7 ⟨Nat.le_of_ble_eq_true rfl, Nat.le_of_ble_eq_true rfl⟩) hS (fun q _ h => hFc q h) hFc (fun r_4 u t H1 locs ht hvm hw hB hz1 hk1 hS => ?_)
  obtain ⟨f_5, hPI, hrel, hP, hD9⟩ := hB
  rw [ht] at hP
  have hD := hD9.weaken (fun _ q _ h => hFc q.1 h)
  generalize H1 = H at hP hS ⊢
  have hfr := FR.tr hfr hrel (fun _ h => h)
  rcases hw with rfl | rfl
  · refine lv_istore_n (lv' := [(3, .int 1), (0, .int n0), (1, .ref x0), (2, .ref y0)]) hx hb dX2_tellRow_10 rfl hl (by decide) rfl (fun ls hl => ?_)
    refine lv_iconst (v := 0) hx hb dX2_tellRow_11 (by decide) ?_
    refine lv_istore (lv' := [(4, .int 0), (3, .int 1), (0, .int n0), (1, .ref x0), (2, .ref y0)]) hx hb dX2_tellRow_12 hl (by decide) rfl (fun ls hl => ?_)
    have loop_14 : ∀ (n : Nat) (i4 : Int32) (b3 : Int32)  (fl : Nat → va_E) (H : Heap) (locs : List Loc) (ls : Array Slot), r01 b3 → (0 ≤ i4.toInt ∧ i4.toInt ≤ 20) → (20 - i4.toInt).toNat < n → (FR sL K L f fl) → PI kT kI kJ K L fl → va_P (dC, dI) vwCl (va_pl L fl) H → va_D A (va_pl L fl) → va_S A s.heap H locs → lv_has ls 5 [(4, .int i4), (3, .int b3), (0, .int n0), (1, .ref x0), (2, .ref y0)] → W p l e (headSpec wsX2_tellRow ({ frames := 1, cells := 0, slots := 0, locals := 24 } : Room)).room s m (([.int n0, .ref x0, .ref y0] : List Value).toArray) below meth c H locs 0 0 Q0 (F0 m 14 ls []) := by
      intro n
      induction n with
      | zero => intro i4 b3 fl H locs ls _ _ h9; exact absurd h9 (Nat.not_lt_zero _)
      | succ n ih_14 =>
        intro i4 b3 fl H locs ls fb3 hI hM hFN hPI hP hD hS hl
        have hfr := hFN
        rcases fb3 with rfl | rfl
        · have hl : lv_has ls 5 [(4, .int i4), (3, .int 1), (0, .int n0), (1, .ref x0), (2, .ref y0)] := hl
          refine lv_iload hx hb dX2_tellRow_14 (lv_at hl 0 rfl) ?_
          refine lv_aload_n hx hb dX2_tellRow_16 rfl (lv_at hl 3 rfl) ?_
          obtain ⟨n_6, g_6, e_6, fn_6⟩ := hPI.a4 hx0
          have kn_6 := nI_len fn_6
          obtain ⟨k_6, hk_6⟩ := va_plg hx0.1 e_6
          refine va_alen hx hb hK hP k_6 1 hk_6 rfl (v := Int32.ofNat n_6) rfl dX2_tellRow_17 ?_
          refine lv_icmp_ge (tgt := 47) hx hb dX2_tellRow_18 (by decide) (fun c_7 => ?_) (fun c_7 => ?_)
          · have c_7 := Int32.le_iff_toInt_le.mp c_7
            refine lv_iload_n hx hb dX2_tellRow_47 rfl (lv_at hl 1 rfl) ?_
            subst eQ
            exact W.zret (v := 1) hx hb hr rfl (fun t ht hW => ⟨⟨1, (), rfl, Or.inl rfl, fl, hPI, hfr, by rw [ht]; exact hP, hD⟩, hS.F ht⟩) hS.2.2 dX2_tellRow_48
          · have c_7 := mt Int32.le_iff_toInt_le.mpr c_7
            refine lv_iload_n hx hb dX2_tellRow_21 rfl (lv_at hl 1 rfl) ?_
            refine lv_if_eq (tgt := 47) hx hb dX2_tellRow_22 (by decide) (fun c9 => absurd c9 (by decide)) (fun _ => ?_)
            refine lv_aload_n hx hb dX2_tellRow_25 rfl (lv_at hl 4 rfl) ?_
            refine lv_iload_n hx hb dX2_tellRow_26 rfl (lv_at hl 2 rfl) ?_
            refine lv_bipush (v := 100) hx hb dX2_tellRow_27 (by decide) ?_
            refine lv_iload hx hb dX2_tellRow_29 (lv_at hl 0 rfl) ?_
            refine lv_iadd hx hb dX2_tellRow_31 ?_
            refine lv_topi (fun z_8 ez_8 => ?_)
            refine lv_aload_n hx hb dX2_tellRow_32 rfl (lv_at hl 3 rfl) ?_
            refine lv_iload hx hb dX2_tellRow_33 (lv_at hl 0 rfl) ?_
            obtain ⟨k_9, hk_9⟩ := va_plg hx0.1 e_6
            have h_9 : vp_in i4 n_6 := (vp_in_iff.mpr (by constructor <;> omega))
            refine va_iald hx hb hK hP k_9 1 hk_9 rfl h_9 dX2_tellRow_35 ?_
            refine lv_topi (fun z_9 ez_9 => ?_)
            refine lv_i2l (v := Int32.toInt64 z_9) hx hb dX2_tellRow_36 rfl ?_
            have k_z_10 := Int32.toInt_toInt64 z_9
            have hFc := pl_free hD hS hA
            obtain ⟨n_11, d_11, v_11, z_11, e_11, fn_11, fd_11, fv_11, fz_11⟩ := hPI.a0 hy0
            obtain ⟨k_11, hk_11⟩ := va_plg hy0.1 e_11
            refine va_calli (va_runV (b := y0) (As := [.int n0, .int z_8, .long (Int32.toInt64 z_9)]) (rest := []) ⟨hx, hb, hml, hown, hts⟩ (t_X0_add l dC dI TT H.size kT kI kJ K L fl hPI y0 hy0 n0 z_8 (Int32.toInt64 z_9)) (cwV 3 hts gX2_tellRow_X0_add rfl rfl rfl (by decide +kernel) ⟨Nat.le_of_ble_eq_true rfl, Nat.le_of_ble_eq_true rfl⟩) ⟨pr_blind, va_recv hK hP (ci := 0) rfl hk_11, (pr_S (ws := va_pl L fl) (wA := va_pl L fl) (tys := [(kT, .object RX1), (kI, .int), (kJ, .long)]) hP hK (hD.weaken (fun _ _ _ _ => trivial)) hst hS hFc).2⟩ rfl rfl hl.1 rfl (lv_room (Nat.le_of_ble_eq_true rfl)) dX2_tellRow_37 ⟨Nat.le_of_ble_eq_true rfl, Nat.le_of_ble_eq_true rfl⟩) hS (fun q _ h => hFc q h) hFc (fun r_12 u t H1 locs ht hvm hw hB hz1 hk1 hS => ?_)
            obtain ⟨f_13, hPI, hrel, hP, hD9⟩ := hB
            rw [ht] at hP
            have hD := hD9.weaken (fun _ q _ h => hFc q.1 h)
            generalize H1 = H at hP hS ⊢
            have hfr := FR.tr hfr hrel (fun _ h => h)
            rcases hw with rfl | rfl
            · refine lv_istore_n (lv' := [(3, .int 1), (4, .int i4), (0, .int n0), (1, .ref x0), (2, .ref y0)]) hx hb dX2_tellRow_40 rfl hl (by decide) rfl (fun ls hl => ?_)
              obtain ⟨i_14, ei_14⟩ : ∃ y : Int32, y = i4 + 1 := ⟨_, rfl⟩
              refine lv_iinc (v := i_14) (lv' := [(4, .int i_14), (3, .int 1), (0, .int n0), (1, .ref x0), (2, .ref y0)]) hx hb dX2_tellRow_41 hl (k := 1) rfl (by rw [ei_14]; rfl) (by decide) rfl (fun ls hl => ?_)
              have ki_14 := inc_toInt ei_14 (by omega)
              refine lv_goto (tgt := 14) hx hb dX2_tellRow_44 (by decide) ?_
              exact ih_14 i_14 1 f_13 _ _ _ (Or.inl rfl) (by omega) (by omega) hfr hPI hP hD hS (lv_sub hl [0, 1, 2, 3, 4] rfl)
            · refine lv_istore_n (lv' := [(3, .int 0), (4, .int i4), (0, .int n0), (1, .ref x0), (2, .ref y0)]) hx hb dX2_tellRow_40 rfl hl (by decide) rfl (fun ls hl => ?_)
              obtain ⟨i_15, ei_15⟩ : ∃ y : Int32, y = i4 + 1 := ⟨_, rfl⟩
              refine lv_iinc (v := i_15) (lv' := [(4, .int i_15), (3, .int 0), (0, .int n0), (1, .ref x0), (2, .ref y0)]) hx hb dX2_tellRow_41 hl (k := 1) rfl (by rw [ei_15]; rfl) (by decide) rfl (fun ls hl => ?_)
              have ki_15 := inc_toInt ei_15 (by omega)
              refine lv_goto (tgt := 14) hx hb dX2_tellRow_44 (by decide) ?_
              exact ih_14 i_15 0 f_13 _ _ _ (Or.inr rfl) (by omega) (by omega) hfr hPI hP hD hS (lv_sub hl [0, 1, 2, 3, 4] rfl)
        · have hl : lv_has ls 5 [(4, .int i4), (3, .int 0), (0, .int n0), (1, .ref x0), (2, .ref y0)] := hl
          refine lv_iload hx hb dX2_tellRow_14 (lv_at hl 0 rfl) ?_
          refine lv_aload_n hx hb dX2_tellRow_16 rfl (lv_at hl 3 rfl) ?_
          obtain ⟨n_16, g_16, e_16, fn_16⟩ := hPI.a4 hx0
          have kn_16 := nI_len fn_16
          obtain ⟨k_16, hk_16⟩ := va_plg hx0.1 e_16
          refine va_alen hx hb hK hP k_16 1 hk_16 rfl (v := Int32.ofNat n_16) rfl dX2_tellRow_17 ?_
          refine lv_icmp_ge (tgt := 47) hx hb dX2_tellRow_18 (by decide) (fun c_17 => ?_) (fun c_17 => ?_)
          · have c_17 := Int32.le_iff_toInt_le.mp c_17
            refine lv_iload_n hx hb dX2_tellRow_47 rfl (lv_at hl 1 rfl) ?_
            subst eQ
            exact W.zret (v := 0) hx hb hr rfl (fun t ht hW => ⟨⟨0, (), rfl, Or.inr rfl, fl, hPI, hfr, by rw [ht]; exact hP, hD⟩, hS.F ht⟩) hS.2.2 dX2_tellRow_48
          · have c_17 := mt Int32.le_iff_toInt_le.mpr c_17
            refine lv_iload_n hx hb dX2_tellRow_21 rfl (lv_at hl 1 rfl) ?_
            refine lv_if_eq (tgt := 47) hx hb dX2_tellRow_22 (by decide) (fun _ => ?_) (fun c9 => absurd c9 (by decide))
            refine lv_iload_n hx hb dX2_tellRow_47 rfl (lv_at hl 1 rfl) ?_
            subst eQ
            exact W.zret (v := 0) hx hb hr rfl (fun t ht hW => ⟨⟨0, (), rfl, Or.inr rfl, fl, hPI, hfr, by rw [ht]; exact hP, hD⟩, hS.F ht⟩) hS.2.2 dX2_tellRow_48
    exact loop_14 21 0 1 f_5 _ _ _ (Or.inl rfl) (by omega) (by omega) hfr hPI hP hD hS hl
  · refine lv_istore_n (lv' := [(3, .int 0), (0, .int n0), (1, .ref x0), (2, .ref y0)]) hx hb dX2_tellRow_10 rfl hl (by decide) rfl (fun ls hl => ?_)
    refine lv_iconst (v := 0) hx hb dX2_tellRow_11 (by decide) ?_
    refine lv_istore (lv' := [(4, .int 0), (3, .int 0), (0, .int n0), (1, .ref x0), (2, .ref y0)]) hx hb dX2_tellRow_12 hl (by decide) rfl (fun ls hl => ?_)
    have loop_14 : ∀ (n : Nat) (i4 : Int32) (b3 : Int32)  (fl : Nat → va_E) (H : Heap) (locs : List Loc) (ls : Array Slot), r01 b3 → (0 ≤ i4.toInt ∧ i4.toInt ≤ 20) → (20 - i4.toInt).toNat < n → (FR sL K L f fl) → PI kT kI kJ K L fl → va_P (dC, dI) vwCl (va_pl L fl) H → va_D A (va_pl L fl) → va_S A s.heap H locs → lv_has ls 5 [(4, .int i4), (3, .int b3), (0, .int n0), (1, .ref x0), (2, .ref y0)] → W p l e (headSpec wsX2_tellRow ({ frames := 1, cells := 0, slots := 0, locals := 24 } : Room)).room s m (([.int n0, .ref x0, .ref y0] : List Value).toArray) below meth c H locs 0 0 Q0 (F0 m 14 ls []) := by
      intro n
      induction n with
      | zero => intro i4 b3 fl H locs ls _ _ h9; exact absurd h9 (Nat.not_lt_zero _)
      | succ n ih_14 =>
        intro i4 b3 fl H locs ls fb3 hI hM hFN hPI hP hD hS hl
        have hfr := hFN
        rcases fb3 with rfl | rfl
        · have hl : lv_has ls 5 [(4, .int i4), (3, .int 1), (0, .int n0), (1, .ref x0), (2, .ref y0)] := hl
          refine lv_iload hx hb dX2_tellRow_14 (lv_at hl 0 rfl) ?_
          refine lv_aload_n hx hb dX2_tellRow_16 rfl (lv_at hl 3 rfl) ?_
          obtain ⟨n_18, g_18, e_18, fn_18⟩ := hPI.a4 hx0
          have kn_18 := nI_len fn_18
          obtain ⟨k_18, hk_18⟩ := va_plg hx0.1 e_18
          refine va_alen hx hb hK hP k_18 1 hk_18 rfl (v := Int32.ofNat n_18) rfl dX2_tellRow_17 ?_
          refine lv_icmp_ge (tgt := 47) hx hb dX2_tellRow_18 (by decide) (fun c_19 => ?_) (fun c_19 => ?_)
          · have c_19 := Int32.le_iff_toInt_le.mp c_19
            refine lv_iload_n hx hb dX2_tellRow_47 rfl (lv_at hl 1 rfl) ?_
            subst eQ
            exact W.zret (v := 1) hx hb hr rfl (fun t ht hW => ⟨⟨1, (), rfl, Or.inl rfl, fl, hPI, hfr, by rw [ht]; exact hP, hD⟩, hS.F ht⟩) hS.2.2 dX2_tellRow_48
          · have c_19 := mt Int32.le_iff_toInt_le.mpr c_19
            refine lv_iload_n hx hb dX2_tellRow_21 rfl (lv_at hl 1 rfl) ?_
            refine lv_if_eq (tgt := 47) hx hb dX2_tellRow_22 (by decide) (fun c9 => absurd c9 (by decide)) (fun _ => ?_)
            refine lv_aload_n hx hb dX2_tellRow_25 rfl (lv_at hl 4 rfl) ?_
            refine lv_iload_n hx hb dX2_tellRow_26 rfl (lv_at hl 2 rfl) ?_
            refine lv_bipush (v := 100) hx hb dX2_tellRow_27 (by decide) ?_
            refine lv_iload hx hb dX2_tellRow_29 (lv_at hl 0 rfl) ?_
            refine lv_iadd hx hb dX2_tellRow_31 ?_
            refine lv_topi (fun z_20 ez_20 => ?_)
            refine lv_aload_n hx hb dX2_tellRow_32 rfl (lv_at hl 3 rfl) ?_
            refine lv_iload hx hb dX2_tellRow_33 (lv_at hl 0 rfl) ?_
            obtain ⟨k_21, hk_21⟩ := va_plg hx0.1 e_18
            have h_21 : vp_in i4 n_18 := (vp_in_iff.mpr (by constructor <;> omega))
            refine va_iald hx hb hK hP k_21 1 hk_21 rfl h_21 dX2_tellRow_35 ?_
            refine lv_topi (fun z_21 ez_21 => ?_)
            refine lv_i2l (v := Int32.toInt64 z_21) hx hb dX2_tellRow_36 rfl ?_
            have k_z_22 := Int32.toInt_toInt64 z_21
            have hFc := pl_free hD hS hA
            obtain ⟨n_23, d_23, v_23, z_23, e_23, fn_23, fd_23, fv_23, fz_23⟩ := hPI.a0 hy0
            obtain ⟨k_23, hk_23⟩ := va_plg hy0.1 e_23
            refine va_calli (va_runV (b := y0) (As := [.int n0, .int z_20, .long (Int32.toInt64 z_21)]) (rest := []) ⟨hx, hb, hml, hown, hts⟩ (t_X0_add l dC dI TT H.size kT kI kJ K L fl hPI y0 hy0 n0 z_20 (Int32.toInt64 z_21)) (cwV 3 hts gX2_tellRow_X0_add rfl rfl rfl (by decide +kernel) ⟨Nat.le_of_ble_eq_true rfl, Nat.le_of_ble_eq_true rfl⟩) ⟨pr_blind, va_recv hK hP (ci := 0) rfl hk_23, (pr_S (ws := va_pl L fl) (wA := va_pl L fl) (tys := [(kT, .object RX1), (kI, .int), (kJ, .long)]) hP hK (hD.weaken (fun _ _ _ _ => trivial)) hst hS hFc).2⟩ rfl rfl hl.1 rfl (lv_room (Nat.le_of_ble_eq_true rfl)) dX2_tellRow_37 ⟨Nat.le_of_ble_eq_true rfl, Nat.le_of_ble_eq_true rfl⟩) hS (fun q _ h => hFc q h) hFc (fun r_24 u t H1 locs ht hvm hw hB hz1 hk1 hS => ?_)
            obtain ⟨f_25, hPI, hrel, hP, hD9⟩ := hB
            rw [ht] at hP
            have hD := hD9.weaken (fun _ q _ h => hFc q.1 h)
            generalize H1 = H at hP hS ⊢
            have hfr := FR.tr hfr hrel (fun _ h => h)
            rcases hw with rfl | rfl
            · refine lv_istore_n (lv' := [(3, .int 1), (4, .int i4), (0, .int n0), (1, .ref x0), (2, .ref y0)]) hx hb dX2_tellRow_40 rfl hl (by decide) rfl (fun ls hl => ?_)
              obtain ⟨i_26, ei_26⟩ : ∃ y : Int32, y = i4 + 1 := ⟨_, rfl⟩
              refine lv_iinc (v := i_26) (lv' := [(4, .int i_26), (3, .int 1), (0, .int n0), (1, .ref x0), (2, .ref y0)]) hx hb dX2_tellRow_41 hl (k := 1) rfl (by rw [ei_26]; rfl) (by decide) rfl (fun ls hl => ?_)
              have ki_26 := inc_toInt ei_26 (by omega)
              refine lv_goto (tgt := 14) hx hb dX2_tellRow_44 (by decide) ?_
              exact ih_14 i_26 1 f_25 _ _ _ (Or.inl rfl) (by omega) (by omega) hfr hPI hP hD hS (lv_sub hl [0, 1, 2, 3, 4] rfl)
            · refine lv_istore_n (lv' := [(3, .int 0), (4, .int i4), (0, .int n0), (1, .ref x0), (2, .ref y0)]) hx hb dX2_tellRow_40 rfl hl (by decide) rfl (fun ls hl => ?_)
              obtain ⟨i_27, ei_27⟩ : ∃ y : Int32, y = i4 + 1 := ⟨_, rfl⟩
              refine lv_iinc (v := i_27) (lv' := [(4, .int i_27), (3, .int 0), (0, .int n0), (1, .ref x0), (2, .ref y0)]) hx hb dX2_tellRow_41 hl (k := 1) rfl (by rw [ei_27]; rfl) (by decide) rfl (fun ls hl => ?_)
              have ki_27 := inc_toInt ei_27 (by omega)
              refine lv_goto (tgt := 14) hx hb dX2_tellRow_44 (by decide) ?_
              exact ih_14 i_27 0 f_25 _ _ _ (Or.inr rfl) (by omega) (by omega) hfr hPI hP hD hS (lv_sub hl [0, 1, 2, 3, 4] rfl)
        · have hl : lv_has ls 5 [(4, .int i4), (3, .int 0), (0, .int n0), (1, .ref x0), (2, .ref y0)] := hl
          refine lv_iload hx hb dX2_tellRow_14 (lv_at hl 0 rfl) ?_
          refine lv_aload_n hx hb dX2_tellRow_16 rfl (lv_at hl 3 rfl) ?_
          obtain ⟨n_28, g_28, e_28, fn_28⟩ := hPI.a4 hx0
          have kn_28 := nI_len fn_28
          obtain ⟨k_28, hk_28⟩ := va_plg hx0.1 e_28
          refine va_alen hx hb hK hP k_28 1 hk_28 rfl (v := Int32.ofNat n_28) rfl dX2_tellRow_17 ?_
          refine lv_icmp_ge (tgt := 47) hx hb dX2_tellRow_18 (by decide) (fun c_29 => ?_) (fun c_29 => ?_)
          · have c_29 := Int32.le_iff_toInt_le.mp c_29
            refine lv_iload_n hx hb dX2_tellRow_47 rfl (lv_at hl 1 rfl) ?_
            subst eQ
            exact W.zret (v := 0) hx hb hr rfl (fun t ht hW => ⟨⟨0, (), rfl, Or.inr rfl, fl, hPI, hfr, by rw [ht]; exact hP, hD⟩, hS.F ht⟩) hS.2.2 dX2_tellRow_48
          · have c_29 := mt Int32.le_iff_toInt_le.mpr c_29
            refine lv_iload_n hx hb dX2_tellRow_21 rfl (lv_at hl 1 rfl) ?_
            refine lv_if_eq (tgt := 47) hx hb dX2_tellRow_22 (by decide) (fun _ => ?_) (fun c9 => absurd c9 (by decide))
            refine lv_iload_n hx hb dX2_tellRow_47 rfl (lv_at hl 1 rfl) ?_
            subst eQ
            exact W.zret (v := 0) hx hb hr rfl (fun t ht hW => ⟨⟨0, (), rfl, Or.inr rfl, fl, hPI, hfr, by rw [ht]; exact hP, hD⟩, hS.F ht⟩) hS.2.2 dX2_tellRow_48
    exact loop_14 21 0 0 f_5 _ _ _ (Or.inr rfl) (by omega) (by omega) hfr hPI hP hD hS hl
set_option maxRecDepth 20000 in
theorem in_t_X2_tellField_X1 : ∀ w ∈ u_ws RX1 TX1 6, w ∈ wsX2_tellField := by decide +kernel
set_option maxRecDepth 20000 in
theorem in_t_X2_tellField_X2 : ∀ w ∈ u_ws RX2 TX2 9, w ∈ wsX2_tellField := by decide +kernel
set_option maxRecDepth 100000 in
set_option maxHeartbeats 4000000 in
theorem t_X2_tellField (l : Launch) (dC : Nat → ClassId) (dI : Nat → Nat → Nat) (TT : Nat × Nat × Nat) (sz : Nat) (kT kI kJ : ClassId) (K : Nat → Nat) (L : List Nat) (f : Nat → va_E) (hPI : PI kT kI kJ K L f) (h0 : Nat) (hh0 : isr K L 2 h0) (n0 : Int32) (f0 : Int32) (y0 : Nat) (hy0 : isr K L 0 y0) (fc0 : Int32) (hFN : FN kT K L f h0 fc0) (hn0 : 0 ≤ n0.toInt ∧ n0.toInt < fc0.toInt) (hf0 : 0 ≤ f0.toInt ∧ f0.toInt < 17) : Met l yX2_tellField wsX2_tellField ({ frames := 2, cells := 0, slots := 0, locals := 48 } : Room) (va_Pc [.ref h0, .int n0, .int f0, .ref y0] (pr dC dI (va_pl L f) (va_pl L f) [(kT, .object RX1), (kI, .int), (kJ, .long)] sz TT)) (va_Qi (fun (r : Int32) (u : Unit) => r01 r) (fun (_ : Unit) t => ∃ f2 : Nat → va_E, PI kT kI kJ K L f2 ∧ (FR sL K L f f2) ∧ va_P (dC, dI) vwCl (va_pl L f2) t.heap ∧ va_D (va_A (va_pl L f) sz) (va_pl L f2)) (va_A (va_pl L f) sz)) 0 0 (va_A (va_pl L f) sz) := by
  refine Met.ofW (cc := cX2_tellField) (maxL := 6) (ret := (some .boolean)) (by decide) rfl ?_
  intro p e s m args below meth c s₁ B hml hv
  obtain ⟨rfl, hsz, hP, hK, hD0, hst⟩ := hv
  have hx := B.exec
  have hb := B.bytes
  have hr := B.returns
  have hts := atoms_spec (ws := wsX2_tellField) B.pre
  have hown : s.vm.findClass RX2 = some m.cls := findClass_of_methodNamed B.named
  have hlocks := B.notSynchronized
  have iX1_ := in_t_X2_tellField_X1
  have iX2_ := in_t_X2_tellField_X2
  subst hsz
  have hD := hD0.self (sz := s.heap.size)
  generalize hAe : va_A (va_pl L f) s.heap.size = A at hD hst ⊢
  have hA : ∀ q : Nat, s.heap.size ≤ q → A q := fun q h => by rw [← hAe]; exact Or.inr h
  have hS : va_S A s.heap s.heap [] := va_S.rf
  have hl := lv_entry ([.ref h0, .int n0, .int f0, .ref y0]) (n := 6) (Nat.le_of_ble_eq_true rfl)
  rw [lg_entry_eq]
  generalize (lg_sl ([.ref h0, .int n0, .int f0, .ref y0]) ++ List.replicate (6 - (lg_sl ([.ref h0, .int n0, .int f0, .ref y0])).length) Slot.unset).toArray = ls at hl ⊢
  have hl : lv_has ls 6 [(0, .ref h0), (1, .int n0), (2, .int f0), (3, .ref y0)] := hl
  have k0_ : Int32.toInt 0 = 0 := by decide
  have k1_ : Int32.toInt 1 = 1 := by decide
  have k8_ : Int32.toInt 8 = 8 := by decide
  have k9_ : Int32.toInt 9 = 9 := by decide
  have kl0_ : Int64.toInt 0 = 0 := by decide
  have hfr : FR sL K L f f := FR.rf
  obtain ⟨q1_1, pc_1, c1_1, c2_1, c3_1, q5_1, q7_1, mc_1, g_1, e_1, fq1_1, fc1_1, fc2_1, fc3_1, fq5_1, ffc_1, fq7_1, fmc_1, eg_1, fg_1, nnf_1⟩ := id hFN
  refine lv_aload_n hx hb dX2_tellField_0 rfl (lv_at hl 0 rfl) ?_
  obtain ⟨k_2, hk_2⟩ := va_plg hh0.1 e_1
  refine va_get (D := (dC, dI)) (ci := 2) (v := .ref q5_1) (C := RX2) (T := TX2) (N := 9) hx hb hts iX2_ hown hK hP k_2 hk_2 rfl 5 (by decide) (hts (.fieldLink RX2 28 "FieldLeaves" "found" "[LFieldLeaves$Thing;") (by decide +kernel)) (fun _ h9 => h9) rfl dX2_tellField_1 ?_
  refine lv_iload_n hx hb dX2_tellField_4 rfl (lv_at hl 1 rfl) ?_
  obtain ⟨k_3, hk_3⟩ := va_plg fq5_1.1 eg_1
  have h_3 : vp_in n0 24 := (vp_in_iff.mpr (by constructor <;> omega))
  refine va_aldq hx hb hK hP k_3 0 hk_3 rfl h_3 dX2_tellField_5 ?_
  have fo_3 := fg_1 _ (vp_lt h_3)
  have nn_3 := nnf_1 (Int32.toNatClampNeg n0) (by rw [clamp_int (by omega)]; omega)
  generalize eo_3 : g_1 (Int32.toNatClampNeg n0) = o_3 at fo_3 nn_3 ⊢
  rcases o_3 with _ | y_4
  · exact absurd rfl nn_3
  · have fy_4 := fo_3 y_4 rfl
    refine W.eq (g2 := F0 m 6 ls [.ref y_4]) rfl ?_
    refine lv_astore (lv' := [(4, .ref y_4), (0, .ref h0), (1, .int n0), (2, .int f0), (3, .ref y0)]) hx hb dX2_tellField_6 hl (by decide) rfl (fun ls hl => ?_)
    refine va_gets (v := .ref TT.1) hx hb hst.zF hS hown (hts (.fieldLink RX2 161 "FieldLeaves" "FORM" "[I") (by decide +kernel)) (fun _ h9 => h9) dX2_tellField_8 ?_
    refine lv_iload_n hx hb dX2_tellField_11 rfl (lv_at hl 3 rfl) ?_
    have h_5 : vp_in f0 17 := (vp_in_iff.mpr (by constructor <;> omega))
    refine va_ti hx hb hst.tF hS h_5 (v := .int (FORMt (Int32.toNatClampNeg f0))) rfl dX2_tellField_12 ?_
    have fh_5 := FORMt_is h_5
    refine lv_bipush (v := 8) hx hb dX2_tellField_13 (by decide) ?_
    refine lv_icmp_ne (tgt := 53) hx hb dX2_tellField_15 (by decide) (fun c_6 => ?_) (fun c_6 => ?_)
    · have c_6 := mt Int32.toInt_inj.mp c_6
      refine va_gets (v := .ref TT.1) hx hb hst.zF hS hown (hts (.fieldLink RX2 161 "FieldLeaves" "FORM" "[I") (by decide +kernel)) (fun _ h9 => h9) dX2_tellField_53 ?_
      refine lv_iload_n hx hb dX2_tellField_56 rfl (lv_at hl 3 rfl) ?_
      have h_7 : vp_in f0 17 := (vp_in_iff.mpr (by constructor <;> omega))
      refine va_ti hx hb hst.tF hS h_7 (v := .int (FORMt (Int32.toNatClampNeg f0))) rfl dX2_tellField_57 ?_
      have fh_7 := FORMt_is h_7
      refine lv_bipush (v := 9) hx hb dX2_tellField_58 (by decide) ?_
      refine lv_icmp_ne (tgt := 90) hx hb dX2_tellField_60 (by decide) (fun c_8 => ?_) (fun c_8 => ?_)
      · have c_8 := mt Int32.toInt_inj.mp c_8
        refine lv_aload hx hb dX2_tellField_90 (lv_at hl 0 rfl) ?_
        obtain ⟨cn_9, v_9, b_9, m_9, st_9, i_9, e_9, fv_9, fb_9, fm_9, fst_9, fi_9⟩ := hPI.a1 fy_4
        obtain ⟨k_9, hk_9⟩ := va_plg fy_4.1 e_9
        refine va_get (D := (dC, dI)) (ci := 1) (v := .ref v_9) (C := RX1) (T := TX1) (N := 6) hx hb hts iX1_ hown hK hP k_9 hk_9 rfl 1 (by decide) (hts (.fieldLink RX2 65 "FieldLeaves$Thing" "values" "[J") (by decide +kernel)) (fun _ h9 => h9) rfl dX2_tellField_92 ?_
        refine lv_iload_n hx hb dX2_tellField_95 rfl (lv_at hl 3 rfl) ?_
        obtain ⟨g_10, e_10⟩ := hPI.a3 fv_9
        obtain ⟨k_10, hk_10⟩ := va_plg fv_9.1 e_10
        have h_10 : vp_in f0 17 := (vp_in_iff.mpr (by constructor <;> omega))
        refine va_lald hx hb hK hP k_10 2 hk_10 rfl h_10 dX2_tellField_96 ?_
        refine lv_topl (fun z_10 ez_10 => ?_)
        refine lv_lconst (v := 0) hx hb dX2_tellField_97 (by decide) ?_
        refine W.lcmp hx hb dX2_tellField_98 ?_
        refine lv_if_eq (tgt := 118) hx hb dX2_tellField_99 (by decide) (fun c_11 => ?_) (fun c_11 => ?_)
        · have c_11 := congrArg Int64.toInt ((lg_cmp_eq z_10 0).mp c_11)
          refine lv_iconst (v := 1) hx hb dX2_tellField_118 (by decide) ?_
          refine lv_goto (tgt := 123) hx hb dX2_tellField_119 (by decide) ?_
          exact W.zret (v := 1) hx hb hr rfl (fun t ht hW => ⟨⟨1, (), rfl, Or.inl rfl, f, hPI, hfr, by rw [ht]; exact hP, hD⟩, hS.F ht⟩) hS.2.2 dX2_tellField_123
        · have c_11 := mt (fun h9 => (lg_cmp_eq z_10 0).mpr (Int64.toInt_inj.mp h9)) c_11
          refine lv_aload_n hx hb dX2_tellField_102 rfl (lv_at hl 4 rfl) ?_
          refine lv_iload_n hx hb dX2_tellField_103 rfl (lv_at hl 2 rfl) ?_
          refine lv_iload_n hx hb dX2_tellField_104 rfl (lv_at hl 3 rfl) ?_
          refine lv_aload hx hb dX2_tellField_105 (lv_at hl 0 rfl) ?_
          obtain ⟨k_12, hk_12⟩ := va_plg fy_4.1 e_9
          refine va_get (D := (dC, dI)) (ci := 1) (v := .ref v_9) (C := RX1) (T := TX1) (N := 6) hx hb hts iX1_ hown hK hP k_12 hk_12 rfl 1 (by decide) (hts (.fieldLink RX2 65 "FieldLeaves$Thing" "values" "[J") (by decide +kernel)) (fun _ h9 => h9) rfl dX2_tellField_107 ?_
          refine lv_iload_n hx hb dX2_tellField_110 rfl (lv_at hl 3 rfl) ?_
          obtain ⟨k_13, hk_13⟩ := va_plg fv_9.1 e_10
          have h_13 : vp_in f0 17 := (vp_in_iff.mpr (by constructor <;> omega))
          refine va_lald hx hb hK hP k_13 2 hk_13 rfl h_13 dX2_tellField_111 ?_
          refine lv_topl (fun z_13 ez_13 => ?_)
          obtain rfl : z_10 = z_13 := ez_10.trans ez_13.symm
          have hFc := pl_free hD hS hA
          obtain ⟨n_14, d_14, v_14, z_14, e_14, fn_14, fd_14, fv_14, fz_14⟩ := hPI.a0 hy0
          obtain ⟨k_14, hk_14⟩ := va_plg hy0.1 e_14
          refine va_calli (va_runV (b := y0) (As := [.int n0, .int f0, .long z_10]) (rest := []) ⟨hx, hb, hml, hown, hts⟩ (t_X0_add l dC dI TT s.heap.size kT kI kJ K L f hPI y0 hy0 n0 f0 z_10) (cwV 3 hts gX2_tellField_X0_add rfl rfl rfl (by decide +kernel) ⟨Nat.le_of_ble_eq_true rfl, Nat.le_of_ble_eq_true rfl⟩) ⟨pr_blind, va_recv hK hP (ci := 0) rfl hk_14, (pr_S (ws := va_pl L f) (wA := va_pl L f) (tys := [(kT, .object RX1), (kI, .int), (kJ, .long)]) hP hK (hD.weaken (fun _ _ _ _ => trivial)) hst hS hFc).2⟩ rfl rfl hl.1 rfl (lv_room (Nat.le_of_ble_eq_true rfl)) dX2_tellField_112 ⟨Nat.le_of_ble_eq_true rfl, Nat.le_of_ble_eq_true rfl⟩) hS (fun q _ h => hFc q h) hFc (fun r_15 u t H1 locs ht hvm hw hB hz1 hk1 hS => ?_)
          obtain ⟨f_16, hPI, hrel, hP, hD9⟩ := hB
          rw [ht] at hP
          have hD := hD9.weaken (fun _ q _ h => hFc q.1 h)
          generalize H1 = H at hP hS ⊢
          have hfr := FR.tr hfr hrel (fun _ h => h)
          rcases hw with rfl | rfl
          · refine lv_if_eq (tgt := 122) hx hb dX2_tellField_115 (by decide) (fun c9 => absurd c9 (by decide)) (fun _ => ?_)
            refine lv_iconst (v := 1) hx hb dX2_tellField_118 (by decide) ?_
            refine lv_goto (tgt := 123) hx hb dX2_tellField_119 (by decide) ?_
            exact W.zret (v := 1) hx hb hr rfl (fun t ht hW => ⟨⟨1, (), rfl, Or.inl rfl, f_16, hPI, hfr, by rw [ht]; exact hP, hD⟩, hS.F ht⟩) hS.2.2 dX2_tellField_123
          · refine lv_if_eq (tgt := 122) hx hb dX2_tellField_115 (by decide) (fun _ => ?_) (fun c9 => absurd c9 (by decide))
            refine lv_iconst (v := 0) hx hb dX2_tellField_122 (by decide) ?_
            exact W.zret (v := 0) hx hb hr rfl (fun t ht hW => ⟨⟨0, (), rfl, Or.inr rfl, f_16, hPI, hfr, by rw [ht]; exact hP, hD⟩, hS.F ht⟩) hS.2.2 dX2_tellField_123
      · have c_8 := congrArg Int32.toInt c_8
        refine lv_aload hx hb dX2_tellField_63 (lv_at hl 0 rfl) ?_
        obtain ⟨cn_17, v_17, b_17, m_17, st_17, i_17, e_17, fv_17, fb_17, fm_17, fst_17, fi_17⟩ := hPI.a1 fy_4
        obtain ⟨k_17, hk_17⟩ := va_plg fy_4.1 e_17
        refine va_get (D := (dC, dI)) (ci := 1) (v := va_rf i_17) (C := RX1) (T := TX1) (N := 6) hx hb hts iX1_ hown hK hP k_17 hk_17 rfl 5 (by decide) (hts (.fieldLink RX2 91 "FieldLeaves$Thing" "ints" "[I") (by decide +kernel)) (fun _ h9 => h9) rfl dX2_tellField_65 ?_
        rcases i_17 with _ | y_18
        · refine W.eq (g2 := F0 m 68 ls [.null]) rfl ?_
          refine lv_ifnullN (tgt := 84) hx hb dX2_tellField_68 (by decide) ?_
          refine lv_iconst (v := 1) hx hb dX2_tellField_84 (by decide) ?_
          refine lv_goto (tgt := 89) hx hb dX2_tellField_85 (by decide) ?_
          exact W.zret (v := 1) hx hb hr rfl (fun t ht hW => ⟨⟨1, (), rfl, Or.inl rfl, f, hPI, hfr, by rw [ht]; exact hP, hD⟩, hS.F ht⟩) hS.2.2 dX2_tellField_89
        · have fy_18 := fi_17 y_18 rfl
          refine W.eq (g2 := F0 m 68 ls [.ref y_18]) rfl ?_
          refine lv_ifnull hx hb dX2_tellField_68 ?_
          refine lv_iload_n hx hb dX2_tellField_71 rfl (lv_at hl 2 rfl) ?_
          refine lv_aload hx hb dX2_tellField_72 (lv_at hl 0 rfl) ?_
          obtain ⟨k_19, hk_19⟩ := va_plg fy_4.1 e_17
          refine va_get (D := (dC, dI)) (ci := 1) (v := va_rf (some y_18)) (C := RX1) (T := TX1) (N := 6) hx hb hts iX1_ hown hK hP k_19 hk_19 rfl 5 (by decide) (hts (.fieldLink RX2 91 "FieldLeaves$Thing" "ints" "[I") (by decide +kernel)) (fun _ h9 => h9) rfl dX2_tellField_74 ?_
          have fy_20 := fi_17 y_18 rfl
          refine W.eq (g2 := F0 m 77 ls [.ref y_18, .int n0]) rfl ?_
          refine lv_aload_n hx hb dX2_tellField_77 rfl (lv_at hl 4 rfl) ?_
          have hFc := pl_free hD hS hA
          refine va_calli (va_runS (As := [.int n0, .ref y_18, .ref y0]) (rest := []) ⟨hx, hb, hml, hown, hts⟩ (t_X2_tellRow l dC dI TT s.heap.size kT kI kJ K L f hPI n0 y_18 fy_20 y0 hy0) (va_cwS 3 hts gX2_tellField_X2_tellRow rfl rfl rfl (by decide +kernel) ⟨Nat.le_of_ble_eq_true rfl, Nat.le_of_ble_eq_true rfl⟩) (pr_S (ws := va_pl L f) (wA := va_pl L f) (tys := [(kT, .object RX1), (kI, .int), (kJ, .long)]) hP hK (hD.weaken (fun _ _ _ _ => trivial)) hst hS hFc) rfl rfl hl.1 rfl (lv_room (Nat.le_of_ble_eq_true rfl)) dX2_tellField_78 ⟨Nat.le_of_ble_eq_true rfl, Nat.le_of_ble_eq_true rfl⟩) hS (fun q _ h => hFc q h) hFc (fun r_21 u t H1 locs ht hvm hw hB hz1 hk1 hS => ?_)
          obtain ⟨f_22, hPI, hrel, hP, hD9⟩ := hB
          rw [ht] at hP
          have hD := hD9.weaken (fun _ q _ h => hFc q.1 h)
          generalize H1 = H at hP hS ⊢
          have hfr := FR.tr hfr hrel (fun _ h => h)
          rcases hw with rfl | rfl
          · refine lv_if_eq (tgt := 88) hx hb dX2_tellField_81 (by decide) (fun c9 => absurd c9 (by decide)) (fun _ => ?_)
            refine lv_iconst (v := 1) hx hb dX2_tellField_84 (by decide) ?_
            refine lv_goto (tgt := 89) hx hb dX2_tellField_85 (by decide) ?_
            exact W.zret (v := 1) hx hb hr rfl (fun t ht hW => ⟨⟨1, (), rfl, Or.inl rfl, f_22, hPI, hfr, by rw [ht]; exact hP, hD⟩, hS.F ht⟩) hS.2.2 dX2_tellField_89
          · refine lv_if_eq (tgt := 88) hx hb dX2_tellField_81 (by decide) (fun _ => ?_) (fun c9 => absurd c9 (by decide))
            refine lv_iconst (v := 0) hx hb dX2_tellField_88 (by decide) ?_
            exact W.zret (v := 0) hx hb hr rfl (fun t ht hW => ⟨⟨0, (), rfl, Or.inr rfl, f_22, hPI, hfr, by rw [ht]; exact hP, hD⟩, hS.F ht⟩) hS.2.2 dX2_tellField_89
    · have c_6 := congrArg Int32.toInt c_6
      refine lv_aload hx hb dX2_tellField_18 (lv_at hl 0 rfl) ?_
      refine lv_iload_n hx hb dX2_tellField_20 rfl (lv_at hl 3 rfl) ?_
      obtain ⟨cn_23, v_23, b_23, m_23, st_23, i_23, e_23, fv_23, fb_23, fm_23, fst_23, fi_23⟩ := hPI.a1 fy_4
      obtain ⟨k_23, hk_23⟩ := va_plg fy_4.1 e_23
      refine va_callq (va_runV (b := y_4) (As := [.int f0]) (rest := []) ⟨hx, hb, hml, hown, hts⟩ (t_X1_held l dC dI TT s.heap.size kT kI kJ K L f hPI y_4 fy_4 f0) (cwV 1 hts gX2_tellField_X1_held rfl rfl rfl (by decide +kernel) ⟨Nat.le_of_ble_eq_true rfl, Nat.le_of_ble_eq_true rfl⟩) ⟨pr_blind, va_recv hK hP (ci := 1) rfl hk_23, (pr_S (ws := va_pl L f) (wA := []) (tys := [(kT, .object RX1), (kI, .int), (kJ, .long)]) hP hK vd_nil hst hS (ro_free hS hA)).2⟩ rfl rfl hl.1 rfl (lv_room (Nat.le_of_ble_eq_true rfl)) dX2_tellField_21 ⟨Nat.le_of_ble_eq_true rfl, Nat.le_of_ble_eq_true rfl⟩) hS (fun q _ h => (ro_free hS hA) q h) (ro_free hS hA) (fun r_24 u t H1 locs ht hvm hw hB hz1 hk1 hS => ?_)
      have hP := ro_keep hP hk1
      generalize H1 = H at hP hS ⊢
      rcases r_24 with _ | y_25
      · refine W.eq (g2 := F0 m 24 ls [.null]) rfl ?_
        refine lv_astoreN (lv' := [(5, .null), (4, .ref y_4), (0, .ref h0), (1, .int n0), (2, .int f0), (3, .ref y0)]) hx hb dX2_tellField_24 hl (by decide) rfl (fun ls hl => ?_)
        refine lv_aloadN hx hb dX2_tellField_26 (lv_at hl 0 rfl) ?_
        refine lv_ifnullN (tgt := 47) hx hb dX2_tellField_28 (by decide) ?_
        refine lv_iconst (v := 1) hx hb dX2_tellField_47 (by decide) ?_
        refine lv_goto (tgt := 52) hx hb dX2_tellField_48 (by decide) ?_
        exact W.zret (v := 1) hx hb hr rfl (fun t ht hW => ⟨⟨1, (), rfl, Or.inl rfl, f, hPI, hfr, by rw [ht]; exact hP, hD⟩, hS.F ht⟩) hS.2.2 dX2_tellField_52
      · have fy_25 := hw y_25 rfl
        refine W.eq (g2 := F0 m 24 ls [.ref y_25]) rfl ?_
        refine lv_astore (lv' := [(5, .ref y_25), (4, .ref y_4), (0, .ref h0), (1, .int n0), (2, .int f0), (3, .ref y0)]) hx hb dX2_tellField_24 hl (by decide) rfl (fun ls hl => ?_)
        refine lv_aload hx hb dX2_tellField_26 (lv_at hl 0 rfl) ?_
        refine lv_ifnull hx hb dX2_tellField_28 ?_
        refine lv_aload_n hx hb dX2_tellField_31 rfl (lv_at hl 5 rfl) ?_
        refine lv_iload_n hx hb dX2_tellField_32 rfl (lv_at hl 3 rfl) ?_
        refine lv_iload_n hx hb dX2_tellField_33 rfl (lv_at hl 4 rfl) ?_
        refine lv_aload_n hx hb dX2_tellField_34 rfl (lv_at hl 2 rfl) ?_
        refine lv_aload hx hb dX2_tellField_35 (lv_at hl 0 rfl) ?_
        obtain ⟨k_26, hk_26⟩ := va_plg hh0.1 e_1
        refine va_calli (va_runV (b := h0) (As := [.ref y_25]) (rest := [.int f0, .int n0, .ref y0]) ⟨hx, hb, hml, hown, hts⟩ (t_X2_numberOf l dC dI TT H.size kT kI kJ K L f hPI h0 hh0 y_25 fy_25) (cwV 1 hts gX2_tellField_X2_numberOf rfl rfl rfl (by decide +kernel) ⟨Nat.le_of_ble_eq_true rfl, Nat.le_of_ble_eq_true rfl⟩) ⟨pr_blind, va_recv hK hP (ci := 2) rfl hk_26, (pr_S (ws := va_pl L f) (wA := []) (tys := [(kT, .object RX1), (kI, .int), (kJ, .long)]) hP hK vd_nil hst hS (ro_free hS hA)).2⟩ rfl rfl hl.1 rfl (lv_room (Nat.le_of_ble_eq_true rfl)) dX2_tellField_37 ⟨Nat.le_of_ble_eq_true rfl, Nat.le_of_ble_eq_true rfl⟩) hS (fun q _ h => (ro_free hS hA) q h) (ro_free hS hA) (fun r_27 u t H1 locs ht hvm hw hB hz1 hk1 hS => ?_)
        have hP := ro_keep hP hk1
        generalize H1 = H at hP hS ⊢
        refine lv_i2l (v := Int32.toInt64 r_27) hx hb dX2_tellField_40 rfl ?_
        have k_z_28 := Int32.toInt_toInt64 r_27
        have hFc := pl_free hD hS hA
        obtain ⟨n_29, d_29, v_29, z_29, e_29, fn_29, fd_29, fv_29, fz_29⟩ := hPI.a0 hy0
        obtain ⟨k_29, hk_29⟩ := va_plg hy0.1 e_29
        refine va_calli (va_runV (b := y0) (As := [.int n0, .int f0, .long (Int32.toInt64 r_27)]) (rest := []) ⟨hx, hb, hml, hown, hts⟩ (t_X0_add l dC dI TT H.size kT kI kJ K L f hPI y0 hy0 n0 f0 (Int32.toInt64 r_27)) (cwV 3 hts gX2_tellField_X0_add rfl rfl rfl (by decide +kernel) ⟨Nat.le_of_ble_eq_true rfl, Nat.le_of_ble_eq_true rfl⟩) ⟨pr_blind, va_recv hK hP (ci := 0) rfl hk_29, (pr_S (ws := va_pl L f) (wA := va_pl L f) (tys := [(kT, .object RX1), (kI, .int), (kJ, .long)]) hP hK (hD.weaken (fun _ _ _ _ => trivial)) hst hS hFc).2⟩ rfl rfl hl.1 rfl (lv_room (Nat.le_of_ble_eq_true rfl)) dX2_tellField_41 ⟨Nat.le_of_ble_eq_true rfl, Nat.le_of_ble_eq_true rfl⟩) hS (fun q _ h => hFc q h) hFc (fun r_30 u t H1 locs ht hvm hw hB hz1 hk1 hS => ?_)
        obtain ⟨f_31, hPI, hrel, hP, hD9⟩ := hB
        rw [ht] at hP
        have hD := hD9.weaken (fun _ q _ h => hFc q.1 h)
        generalize H1 = H at hP hS ⊢
        have hfr := FR.tr hfr hrel (fun _ h => h)
        rcases hw with rfl | rfl
        · refine lv_if_eq (tgt := 51) hx hb dX2_tellField_44 (by decide) (fun c9 => absurd c9 (by decide)) (fun _ => ?_)
          refine lv_iconst (v := 1) hx hb dX2_tellField_47 (by decide) ?_
          refine lv_goto (tgt := 52) hx hb dX2_tellField_48 (by decide) ?_
          exact W.zret (v := 1) hx hb hr rfl (fun t ht hW => ⟨⟨1, (), rfl, Or.inl rfl, f_31, hPI, hfr, by rw [ht]; exact hP, hD⟩, hS.F ht⟩) hS.2.2 dX2_tellField_52
        · refine lv_if_eq (tgt := 51) hx hb dX2_tellField_44 (by decide) (fun _ => ?_) (fun c9 => absurd c9 (by decide))
          refine lv_iconst (v := 0) hx hb dX2_tellField_51 (by decide) ?_
          exact W.zret (v := 0) hx hb hr rfl (fun t ht hW => ⟨⟨0, (), rfl, Or.inr rfl, f_31, hPI, hfr, by rw [ht]; exact hP, hD⟩, hS.F ht⟩) hS.2.2 dX2_tellField_52
set_option maxRecDepth 20000 in
theorem in_t_X2_tellObject_X1 : ∀ w ∈ u_ws RX1 TX1 6, w ∈ wsX2_tellObject := by decide +kernel
set_option maxRecDepth 20000 in
theorem in_t_X2_tellObject_X2 : ∀ w ∈ u_ws RX2 TX2 9, w ∈ wsX2_tellObject := by decide +kernel
set_option maxRecDepth 100000 in
set_option maxHeartbeats 4000000 in
theorem t_X2_tellObject (l : Launch) (dC : Nat → ClassId) (dI : Nat → Nat → Nat) (TT : Nat × Nat × Nat) (sz : Nat) (kT kI kJ : ClassId) (K : Nat → Nat) (L : List Nat) (f : Nat → va_E) (hPI : PI kT kI kJ K L f) (h0 : Nat) (hh0 : isr K L 2 h0) (n0 : Int32) (y0 : Nat) (hy0 : isr K L 0 y0) (fc0 : Int32) (hFN : FN kT K L f h0 fc0) (hn0 : 0 ≤ n0.toInt ∧ n0.toInt < fc0.toInt) : Met l yX2_tellObject wsX2_tellObject ({ frames := 3, cells := 0, slots := 0, locals := 73 } : Room) (va_Pc [.ref h0, .int n0, .ref y0] (pr dC dI (va_pl L f) (va_pl L f) [(kT, .object RX1), (kI, .int), (kJ, .long)] sz TT)) (va_Qi (fun (r : Int32) (u : Unit) => r01 r) (fun (_ : Unit) t => ∃ f2 : Nat → va_E, PI kT kI kJ K L f2 ∧ (FR sL K L f f2) ∧ va_P (dC, dI) vwCl (va_pl L f2) t.heap ∧ va_D (va_A (va_pl L f) sz) (va_pl L f2)) (va_A (va_pl L f) sz)) 0 0 (va_A (va_pl L f) sz) := by
  refine Met.ofW (cc := cX2_tellObject) (maxL := 6) (ret := (some .boolean)) (by decide) rfl ?_
  intro p e s m args below meth c s₁ B hml hv
  obtain ⟨rfl, hsz, hP, hK, hD0, hst⟩ := hv
  have hx := B.exec
  have hb := B.bytes
  have hr := B.returns
  have hts := atoms_spec (ws := wsX2_tellObject) B.pre
  have hown : s.vm.findClass RX2 = some m.cls := findClass_of_methodNamed B.named
  have hlocks := B.notSynchronized
  have iX1_ := in_t_X2_tellObject_X1
  have iX2_ := in_t_X2_tellObject_X2
  subst hsz
  have hD := hD0.self (sz := s.heap.size)
  generalize hAe : va_A (va_pl L f) s.heap.size = A at hD hst ⊢
  have hA : ∀ q : Nat, s.heap.size ≤ q → A q := fun q h => by rw [← hAe]; exact Or.inr h
  have hS : va_S A s.heap s.heap [] := va_S.rf
  have hl := lv_entry ([.ref h0, .int n0, .ref y0]) (n := 6) (Nat.le_of_ble_eq_true rfl)
  rw [lg_entry_eq]
  generalize (lg_sl ([.ref h0, .int n0, .ref y0]) ++ List.replicate (6 - (lg_sl ([.ref h0, .int n0, .ref y0])).length) Slot.unset).toArray = ls at hl ⊢
  have hl : lv_has ls 6 [(0, .ref h0), (1, .int n0), (2, .ref y0)] := hl
  have km1_ : Int32.toInt (-1) = -1 := by decide
  have k0_ : Int32.toInt 0 = 0 := by decide
  have k1_ : Int32.toInt 1 = 1 := by decide
  have k17_ : Int32.toInt 17 = 17 := by decide
  have hfr : FR sL K L f f := FR.rf
  refine W_nameQ (fun Q0 eQ => ?_)
  obtain ⟨q1_1, pc_1, c1_1, c2_1, c3_1, q5_1, q7_1, mc_1, g_1, e_1, fq1_1, fc1_1, fc2_1, fc3_1, fq5_1, ffc_1, fq7_1, fmc_1, eg_1, fg_1, nnf_1⟩ := id hFN
  refine lv_aload_n hx hb dX2_tellObject_0 rfl (lv_at hl 0 rfl) ?_
  obtain ⟨k_2, hk_2⟩ := va_plg hh0.1 e_1
  refine va_get (D := (dC, dI)) (ci := 2) (v := .ref q5_1) (C := RX2) (T := TX2) (N := 9) hx hb hts iX2_ hown hK hP k_2 hk_2 rfl 5 (by decide) (hts (.fieldLink RX2 28 "FieldLeaves" "found" "[LFieldLeaves$Thing;") (by decide +kernel)) (fun _ h9 => h9) rfl dX2_tellObject_1 ?_
  refine lv_iload_n hx hb dX2_tellObject_4 rfl (lv_at hl 1 rfl) ?_
  obtain ⟨k_3, hk_3⟩ := va_plg fq5_1.1 eg_1
  have h_3 : vp_in n0 24 := (vp_in_iff.mpr (by constructor <;> omega))
  refine va_aldq hx hb hK hP k_3 0 hk_3 rfl h_3 dX2_tellObject_5 ?_
  have fo_3 := fg_1 _ (vp_lt h_3)
  have nn_3 := nnf_1 (Int32.toNatClampNeg n0) (by rw [clamp_int (by omega)]; omega)
  generalize eo_3 : g_1 (Int32.toNatClampNeg n0) = o_3 at fo_3 nn_3 ⊢
  rcases o_3 with _ | y_4
  · exact absurd rfl nn_3
  · have fy_4 := fo_3 y_4 rfl
    refine W.eq (g2 := F0 m 6 ls [.ref y_4]) rfl ?_
    refine lv_astore_n (lv' := [(3, .ref y_4), (0, .ref h0), (1, .int n0), (2, .ref y0)]) hx hb dX2_tellObject_6 rfl hl (by decide) rfl (fun ls hl => ?_)
    refine lv_aload_n hx hb dX2_tellObject_7 rfl (lv_at hl 3 rfl) ?_
    refine lv_iload_n hx hb dX2_tellObject_8 rfl (lv_at hl 2 rfl) ?_
    refine lv_iconst (v := (-1)) hx hb dX2_tellObject_9 (by decide) ?_
    refine lv_aload_n hx hb dX2_tellObject_10 rfl (lv_at hl 0 rfl) ?_
    obtain ⟨cn_5, v_5, b_5, m_5, st_5, i_5, e_5, fv_5, fb_5, fm_5, fst_5, fi_5⟩ := hPI.a1 fy_4
    obtain ⟨k_5, hk_5⟩ := va_plg fy_4.1 e_5
    refine va_get (D := (dC, dI)) (ci := 1) (v := .int cn_5) (C := RX1) (T := TX1) (N := 6) hx hb hts iX1_ hown hK hP k_5 hk_5 rfl 0 (by decide) (hts (.fieldLink RX2 45 "FieldLeaves$Thing" "classNumber" "I") (by decide +kernel)) (fun _ h9 => h9) rfl dX2_tellObject_11 ?_
    refine lv_i2l (v := Int32.toInt64 cn_5) hx hb dX2_tellObject_14 rfl ?_
    have k_z_6 := Int32.toInt_toInt64 cn_5
    have hFc := pl_free hD hS hA
    obtain ⟨n_7, d_7, v_7, z_7, e_7, fn_7, fd_7, fv_7, fz_7⟩ := hPI.a0 hy0
    obtain ⟨k_7, hk_7⟩ := va_plg hy0.1 e_7
    refine va_calli (va_runV (b := y0) (As := [.int n0, .int (-1), .long (Int32.toInt64 cn_5)]) (rest := []) ⟨hx, hb, hml, hown, hts⟩ (t_X0_add l dC dI TT s.heap.size kT kI kJ K L f hPI y0 hy0 n0 (-1) (Int32.toInt64 cn_5)) (cwV 3 hts gX2_tellObject_X0_add rfl rfl rfl (by decide +kernel) ⟨Nat.le_of_ble_eq_true rfl, Nat.le_of_ble_eq_true rfl⟩) ⟨pr_blind, va_recv hK hP (ci := 0) rfl hk_7, (pr_S (ws := va_pl L f) (wA := va_pl L f) (tys := [(kT, .object RX1), (kI, .int), (kJ, .long)]) hP hK (hD.weaken (fun _ _ _ _ => trivial)) hst hS hFc).2⟩ rfl rfl hl.1 rfl (lv_room (Nat.le_of_ble_eq_true rfl)) dX2_tellObject_15 ⟨Nat.le_of_ble_eq_true rfl, Nat.le_of_ble_eq_true rfl⟩) hS (fun q _ h => hFc q h) hFc (fun r_8 u t H1 locs ht hvm hw hB hz1 hk1 hS => ?_)
    obtain ⟨f_9, hPI, hrel, hP, hD9⟩ := hB
    rw [ht] at hP
    have hD := hD9.weaken (fun _ q _ h => hFc q.1 h)
    generalize H1 = H at hP hS ⊢
    have hfr := FR.tr hfr hrel (fun _ h => h)
    have hFN := hFN.fr hh0 hrel
    rcases hw with rfl | rfl
    · refine lv_istore (lv' := [(4, .int 1), (3, .ref y_4), (0, .ref h0), (1, .int n0), (2, .ref y0)]) hx hb dX2_tellObject_18 hl (by decide) rfl (fun ls hl => ?_)
      refine lv_iconst (v := 0) hx hb dX2_tellObject_20 (by decide) ?_
      refine lv_istore (lv' := [(5, .int 0), (4, .int 1), (3, .ref y_4), (0, .ref h0), (1, .int n0), (2, .ref y0)]) hx hb dX2_tellObject_21 hl (by decide) rfl (fun ls hl => ?_)
      have loop_23 : ∀ (n : Nat) (i5 : Int32) (b4 : Int32)  (fl : Nat → va_E) (H : Heap) (locs : List Loc) (ls : Array Slot), r01 b4 → (0 ≤ i5.toInt ∧ i5.toInt ≤ 17) → (17 - i5.toInt).toNat < n → (FR sL K L f fl ∧ FN kT K L fl h0 fc0) → PI kT kI kJ K L fl → va_P (dC, dI) vwCl (va_pl L fl) H → va_D A (va_pl L fl) → va_S A s.heap H locs → lv_has ls 6 [(5, .int i5), (4, .int b4), (3, .ref y_4), (0, .ref h0), (1, .int n0), (2, .ref y0)] → W p l e (headSpec wsX2_tellObject ({ frames := 3, cells := 0, slots := 0, locals := 73 } : Room)).room s m (([.ref h0, .int n0, .ref y0] : List Value).toArray) below meth c H locs 0 0 Q0 (F0 m 23 ls []) := by
        intro n
        induction n with
        | zero => intro i5 b4 fl H locs ls _ _ h9; exact absurd h9 (Nat.not_lt_zero _)
        | succ n ih_23 =>
          intro i5 b4 fl H locs ls fb4 hI hM hFN hPI hP hD hS hl
          obtain ⟨hfr, hFN⟩ := hFN
          rcases fb4 with rfl | rfl
          · have hl : lv_has ls 6 [(5, .int i5), (4, .int 1), (3, .ref y_4), (0, .ref h0), (1, .int n0), (2, .ref y0)] := hl
            refine lv_iload hx hb dX2_tellObject_23 (lv_at hl 0 rfl) ?_
            refine lv_bipush (v := 17) hx hb dX2_tellObject_25 (by decide) ?_
            refine lv_icmp_ge (tgt := 51) hx hb dX2_tellObject_27 (by decide) (fun c_10 => ?_) (fun c_10 => ?_)
            · have c_10 := Int32.le_iff_toInt_le.mp c_10
              refine lv_iload hx hb dX2_tellObject_51 (lv_at hl 1 rfl) ?_
              subst eQ
              exact W.zret (v := 1) hx hb hr rfl (fun t ht hW => ⟨⟨1, (), rfl, Or.inl rfl, fl, hPI, hfr, by rw [ht]; exact hP, hD⟩, hS.F ht⟩) hS.2.2 dX2_tellObject_53
            · have c_10 := mt Int32.le_iff_toInt_le.mpr c_10
              refine lv_iload hx hb dX2_tellObject_30 (lv_at hl 1 rfl) ?_
              refine lv_if_eq (tgt := 51) hx hb dX2_tellObject_32 (by decide) (fun c9 => absurd c9 (by decide)) (fun _ => ?_)
              refine lv_aload_n hx hb dX2_tellObject_35 rfl (lv_at hl 3 rfl) ?_
              refine lv_iload_n hx hb dX2_tellObject_36 rfl (lv_at hl 4 rfl) ?_
              refine lv_iload hx hb dX2_tellObject_37 (lv_at hl 0 rfl) ?_
              refine lv_aload_n hx hb dX2_tellObject_39 rfl (lv_at hl 5 rfl) ?_
              have hFc := pl_free hD hS hA
              obtain ⟨q1_11, pc_11, c1_11, c2_11, c3_11, q5_11, fc_11, q7_11, mc_11, e_11, fq1_11, fc1_11, fc2_11, fc3_11, fq5_11, ffc_11, fq7_11, fmc_11⟩ := hPI.a2 hh0
              obtain ⟨k_11, hk_11⟩ := va_plg hh0.1 e_11
              refine va_calli (va_runV (b := h0) (As := [.int n0, .int i5, .ref y0]) (rest := []) ⟨hx, hb, hml, hown, hts⟩ (t_X2_tellField l dC dI TT H.size kT kI kJ K L fl hPI h0 hh0 n0 i5 y0 hy0 fc0 hFN (by constructor <;> omega) (by constructor <;> omega)) (cwV 3 hts gX2_tellObject_X2_tellField rfl rfl rfl (by decide +kernel) ⟨Nat.le_of_ble_eq_true rfl, Nat.le_of_ble_eq_true rfl⟩) ⟨pr_blind, va_recv hK hP (ci := 2) rfl hk_11, (pr_S (ws := va_pl L fl) (wA := va_pl L fl) (tys := [(kT, .object RX1), (kI, .int), (kJ, .long)]) hP hK (hD.weaken (fun _ _ _ _ => trivial)) hst hS hFc).2⟩ rfl rfl hl.1 rfl (lv_room (Nat.le_of_ble_eq_true rfl)) dX2_tellObject_40 ⟨Nat.le_of_ble_eq_true rfl, Nat.le_of_ble_eq_true rfl⟩) hS (fun q _ h => hFc q h) hFc (fun r_12 u t H1 locs ht hvm hw hB hz1 hk1 hS => ?_)
              obtain ⟨f_13, hPI, hrel, hP, hD9⟩ := hB
              rw [ht] at hP
              have hD := hD9.weaken (fun _ q _ h => hFc q.1 h)
              generalize H1 = H at hP hS ⊢
              have hfr := FR.tr hfr hrel (fun _ h => h)
              have hFN := hFN.fr hh0 hrel
              rcases hw with rfl | rfl
              · refine lv_istore (lv' := [(4, .int 1), (5, .int i5), (3, .ref y_4), (0, .ref h0), (1, .int n0), (2, .ref y0)]) hx hb dX2_tellObject_43 hl (by decide) rfl (fun ls hl => ?_)
                obtain ⟨i_14, ei_14⟩ : ∃ y : Int32, y = i5 + 1 := ⟨_, rfl⟩
                refine lv_iinc (v := i_14) (lv' := [(5, .int i_14), (4, .int 1), (3, .ref y_4), (0, .ref h0), (1, .int n0), (2, .ref y0)]) hx hb dX2_tellObject_45 hl (k := 1) rfl (by rw [ei_14]; rfl) (by decide) rfl (fun ls hl => ?_)
                have ki_14 := inc_toInt ei_14 (by omega)
                refine lv_goto (tgt := 23) hx hb dX2_tellObject_48 (by decide) ?_
                exact ih_23 i_14 1 f_13 _ _ _ (Or.inl rfl) (by omega) (by omega) ⟨hfr, hFN⟩ hPI hP hD hS (lv_sub hl [0, 1, 2, 3, 4, 5] rfl)
              · refine lv_istore (lv' := [(4, .int 0), (5, .int i5), (3, .ref y_4), (0, .ref h0), (1, .int n0), (2, .ref y0)]) hx hb dX2_tellObject_43 hl (by decide) rfl (fun ls hl => ?_)
                obtain ⟨i_15, ei_15⟩ : ∃ y : Int32, y = i5 + 1 := ⟨_, rfl⟩
                refine lv_iinc (v := i_15) (lv' := [(5, .int i_15), (4, .int 0), (3, .ref y_4), (0, .ref h0), (1, .int n0), (2, .ref y0)]) hx hb dX2_tellObject_45 hl (k := 1) rfl (by rw [ei_15]; rfl) (by decide) rfl (fun ls hl => ?_)
                have ki_15 := inc_toInt ei_15 (by omega)
                refine lv_goto (tgt := 23) hx hb dX2_tellObject_48 (by decide) ?_
                exact ih_23 i_15 0 f_13 _ _ _ (Or.inr rfl) (by omega) (by omega) ⟨hfr, hFN⟩ hPI hP hD hS (lv_sub hl [0, 1, 2, 3, 4, 5] rfl)
          · have hl : lv_has ls 6 [(5, .int i5), (4, .int 0), (3, .ref y_4), (0, .ref h0), (1, .int n0), (2, .ref y0)] := hl
            refine lv_iload hx hb dX2_tellObject_23 (lv_at hl 0 rfl) ?_
            refine lv_bipush (v := 17) hx hb dX2_tellObject_25 (by decide) ?_
            refine lv_icmp_ge (tgt := 51) hx hb dX2_tellObject_27 (by decide) (fun c_16 => ?_) (fun c_16 => ?_)
            · have c_16 := Int32.le_iff_toInt_le.mp c_16
              refine lv_iload hx hb dX2_tellObject_51 (lv_at hl 1 rfl) ?_
              subst eQ
              exact W.zret (v := 0) hx hb hr rfl (fun t ht hW => ⟨⟨0, (), rfl, Or.inr rfl, fl, hPI, hfr, by rw [ht]; exact hP, hD⟩, hS.F ht⟩) hS.2.2 dX2_tellObject_53
            · have c_16 := mt Int32.le_iff_toInt_le.mpr c_16
              refine lv_iload hx hb dX2_tellObject_30 (lv_at hl 1 rfl) ?_
              refine lv_if_eq (tgt := 51) hx hb dX2_tellObject_32 (by decide) (fun _ => ?_) (fun c9 => absurd c9 (by decide))
              refine lv_iload hx hb dX2_tellObject_51 (lv_at hl 1 rfl) ?_
              subst eQ
              exact W.zret (v := 0) hx hb hr rfl (fun t ht hW => ⟨⟨0, (), rfl, Or.inr rfl, fl, hPI, hfr, by rw [ht]; exact hP, hD⟩, hS.F ht⟩) hS.2.2 dX2_tellObject_53
      exact loop_23 18 0 1 f_9 _ _ _ (Or.inl rfl) (by omega) (by omega) ⟨hfr, hFN⟩ hPI hP hD hS hl
    · refine lv_istore (lv' := [(4, .int 0), (3, .ref y_4), (0, .ref h0), (1, .int n0), (2, .ref y0)]) hx hb dX2_tellObject_18 hl (by decide) rfl (fun ls hl => ?_)
      refine lv_iconst (v := 0) hx hb dX2_tellObject_20 (by decide) ?_
      refine lv_istore (lv' := [(5, .int 0), (4, .int 0), (3, .ref y_4), (0, .ref h0), (1, .int n0), (2, .ref y0)]) hx hb dX2_tellObject_21 hl (by decide) rfl (fun ls hl => ?_)
      have loop_23 : ∀ (n : Nat) (i5 : Int32) (b4 : Int32)  (fl : Nat → va_E) (H : Heap) (locs : List Loc) (ls : Array Slot), r01 b4 → (0 ≤ i5.toInt ∧ i5.toInt ≤ 17) → (17 - i5.toInt).toNat < n → (FR sL K L f fl ∧ FN kT K L fl h0 fc0) → PI kT kI kJ K L fl → va_P (dC, dI) vwCl (va_pl L fl) H → va_D A (va_pl L fl) → va_S A s.heap H locs → lv_has ls 6 [(5, .int i5), (4, .int b4), (3, .ref y_4), (0, .ref h0), (1, .int n0), (2, .ref y0)] → W p l e (headSpec wsX2_tellObject ({ frames := 3, cells := 0, slots := 0, locals := 73 } : Room)).room s m (([.ref h0, .int n0, .ref y0] : List Value).toArray) below meth c H locs 0 0 Q0 (F0 m 23 ls []) := by
        intro n
        induction n with
        | zero => intro i5 b4 fl H locs ls _ _ h9; exact absurd h9 (Nat.not_lt_zero _)
        | succ n ih_23 =>
          intro i5 b4 fl H locs ls fb4 hI hM hFN hPI hP hD hS hl
          obtain ⟨hfr, hFN⟩ := hFN
          rcases fb4 with rfl | rfl
          · have hl : lv_has ls 6 [(5, .int i5), (4, .int 1), (3, .ref y_4), (0, .ref h0), (1, .int n0), (2, .ref y0)] := hl
            refine lv_iload hx hb dX2_tellObject_23 (lv_at hl 0 rfl) ?_
            refine lv_bipush (v := 17) hx hb dX2_tellObject_25 (by decide) ?_
            refine lv_icmp_ge (tgt := 51) hx hb dX2_tellObject_27 (by decide) (fun c_17 => ?_) (fun c_17 => ?_)
            · have c_17 := Int32.le_iff_toInt_le.mp c_17
              refine lv_iload hx hb dX2_tellObject_51 (lv_at hl 1 rfl) ?_
              subst eQ
              exact W.zret (v := 1) hx hb hr rfl (fun t ht hW => ⟨⟨1, (), rfl, Or.inl rfl, fl, hPI, hfr, by rw [ht]; exact hP, hD⟩, hS.F ht⟩) hS.2.2 dX2_tellObject_53
            · have c_17 := mt Int32.le_iff_toInt_le.mpr c_17
              refine lv_iload hx hb dX2_tellObject_30 (lv_at hl 1 rfl) ?_
              refine lv_if_eq (tgt := 51) hx hb dX2_tellObject_32 (by decide) (fun c9 => absurd c9 (by decide)) (fun _ => ?_)
              refine lv_aload_n hx hb dX2_tellObject_35 rfl (lv_at hl 3 rfl) ?_
              refine lv_iload_n hx hb dX2_tellObject_36 rfl (lv_at hl 4 rfl) ?_
              refine lv_iload hx hb dX2_tellObject_37 (lv_at hl 0 rfl) ?_
              refine lv_aload_n hx hb dX2_tellObject_39 rfl (lv_at hl 5 rfl) ?_
              have hFc := pl_free hD hS hA
              obtain ⟨q1_18, pc_18, c1_18, c2_18, c3_18, q5_18, fc_18, q7_18, mc_18, e_18, fq1_18, fc1_18, fc2_18, fc3_18, fq5_18, ffc_18, fq7_18, fmc_18⟩ := hPI.a2 hh0
              obtain ⟨k_18, hk_18⟩ := va_plg hh0.1 e_18
              refine va_calli (va_runV (b := h0) (As := [.int n0, .int i5, .ref y0]) (rest := []) ⟨hx, hb, hml, hown, hts⟩ (t_X2_tellField l dC dI TT H.size kT kI kJ K L fl hPI h0 hh0 n0 i5 y0 hy0 fc0 hFN (by constructor <;> omega) (by constructor <;> omega)) (cwV 3 hts gX2_tellObject_X2_tellField rfl rfl rfl (by decide +kernel) ⟨Nat.le_of_ble_eq_true rfl, Nat.le_of_ble_eq_true rfl⟩) ⟨pr_blind, va_recv hK hP (ci := 2) rfl hk_18, (pr_S (ws := va_pl L fl) (wA := va_pl L fl) (tys := [(kT, .object RX1), (kI, .int), (kJ, .long)]) hP hK (hD.weaken (fun _ _ _ _ => trivial)) hst hS hFc).2⟩ rfl rfl hl.1 rfl (lv_room (Nat.le_of_ble_eq_true rfl)) dX2_tellObject_40 ⟨Nat.le_of_ble_eq_true rfl, Nat.le_of_ble_eq_true rfl⟩) hS (fun q _ h => hFc q h) hFc (fun r_19 u t H1 locs ht hvm hw hB hz1 hk1 hS => ?_)
              obtain ⟨f_20, hPI, hrel, hP, hD9⟩ := hB
              rw [ht] at hP
              have hD := hD9.weaken (fun _ q _ h => hFc q.1 h)
              generalize H1 = H at hP hS ⊢
              have hfr := FR.tr hfr hrel (fun _ h => h)
              have hFN := hFN.fr hh0 hrel
              rcases hw with rfl | rfl
              · refine lv_istore (lv' := [(4, .int 1), (5, .int i5), (3, .ref y_4), (0, .ref h0), (1, .int n0), (2, .ref y0)]) hx hb dX2_tellObject_43 hl (by decide) rfl (fun ls hl => ?_)
                obtain ⟨i_21, ei_21⟩ : ∃ y : Int32, y = i5 + 1 := ⟨_, rfl⟩
                refine lv_iinc (v := i_21) (lv' := [(5, .int i_21), (4, .int 1), (3, .ref y_4), (0, .ref h0), (1, .int n0), (2, .ref y0)]) hx hb dX2_tellObject_45 hl (k := 1) rfl (by rw [ei_21]; rfl) (by decide) rfl (fun ls hl => ?_)
                have ki_21 := inc_toInt ei_21 (by omega)
                refine lv_goto (tgt := 23) hx hb dX2_tellObject_48 (by decide) ?_
                exact ih_23 i_21 1 f_20 _ _ _ (Or.inl rfl) (by omega) (by omega) ⟨hfr, hFN⟩ hPI hP hD hS (lv_sub hl [0, 1, 2, 3, 4, 5] rfl)
              · refine lv_istore (lv' := [(4, .int 0), (5, .int i5), (3, .ref y_4), (0, .ref h0), (1, .int n0), (2, .ref y0)]) hx hb dX2_tellObject_43 hl (by decide) rfl (fun ls hl => ?_)
                obtain ⟨i_22, ei_22⟩ : ∃ y : Int32, y = i5 + 1 := ⟨_, rfl⟩
                refine lv_iinc (v := i_22) (lv' := [(5, .int i_22), (4, .int 0), (3, .ref y_4), (0, .ref h0), (1, .int n0), (2, .ref y0)]) hx hb dX2_tellObject_45 hl (k := 1) rfl (by rw [ei_22]; rfl) (by decide) rfl (fun ls hl => ?_)
                have ki_22 := inc_toInt ei_22 (by omega)
                refine lv_goto (tgt := 23) hx hb dX2_tellObject_48 (by decide) ?_
                exact ih_23 i_22 0 f_20 _ _ _ (Or.inr rfl) (by omega) (by omega) ⟨hfr, hFN⟩ hPI hP hD hS (lv_sub hl [0, 1, 2, 3, 4, 5] rfl)
          · have hl : lv_has ls 6 [(5, .int i5), (4, .int 0), (3, .ref y_4), (0, .ref h0), (1, .int n0), (2, .ref y0)] := hl
            refine lv_iload hx hb dX2_tellObject_23 (lv_at hl 0 rfl) ?_
            refine lv_bipush (v := 17) hx hb dX2_tellObject_25 (by decide) ?_
            refine lv_icmp_ge (tgt := 51) hx hb dX2_tellObject_27 (by decide) (fun c_23 => ?_) (fun c_23 => ?_)
            · have c_23 := Int32.le_iff_toInt_le.mp c_23
              refine lv_iload hx hb dX2_tellObject_51 (lv_at hl 1 rfl) ?_
              subst eQ
              exact W.zret (v := 0) hx hb hr rfl (fun t ht hW => ⟨⟨0, (), rfl, Or.inr rfl, fl, hPI, hfr, by rw [ht]; exact hP, hD⟩, hS.F ht⟩) hS.2.2 dX2_tellObject_53
            · have c_23 := mt Int32.le_iff_toInt_le.mpr c_23
              refine lv_iload hx hb dX2_tellObject_30 (lv_at hl 1 rfl) ?_
              refine lv_if_eq (tgt := 51) hx hb dX2_tellObject_32 (by decide) (fun _ => ?_) (fun c9 => absurd c9 (by decide))
              refine lv_iload hx hb dX2_tellObject_51 (lv_at hl 1 rfl) ?_
              subst eQ
              exact W.zret (v := 0) hx hb hr rfl (fun t ht hW => ⟨⟨0, (), rfl, Or.inr rfl, fl, hPI, hfr, by rw [ht]; exact hP, hD⟩, hS.F ht⟩) hS.2.2 dX2_tellObject_53
      exact loop_23 18 0 0 f_9 _ _ _ (Or.inr rfl) (by omega) (by omega) ⟨hfr, hFN⟩ hPI hP hD hS hl
set_option maxRecDepth 20000 in
theorem in_t_X2_tell_X0 : ∀ w ∈ u_ws RX0 TX0 4, w ∈ wsX2_tell := by decide +kernel
set_option maxRecDepth 20000 in
theorem in_t_X2_tell_X2 : ∀ w ∈ u_ws RX2 TX2 9, w ∈ wsX2_tell := by decide +kernel
set_option maxRecDepth 100000 in
set_option maxHeartbeats 4000000 in
theorem t_X2_tell (l : Launch) (dC : Nat → ClassId) (dI : Nat → Nat → Nat) (TT : Nat × Nat × Nat) (sz : Nat) (kT kI kJ : ClassId) (K : Nat → Nat) (L : List Nat) (f : Nat → va_E) (hPI : PI kT kI kJ K L f) (h0 : Nat) (hh0 : isr K L 2 h0) (x0 : Nat) (hx0 : isr K L 1 x0) (y0 : Nat) (hy0 : isr K L 0 y0) : Met l yX2_tell wsX2_tell ({ frames := 4, cells := 0, slots := 0, locals := 98 } : Room) (va_Pc [.ref h0, .ref x0, .ref y0] (pr dC dI (va_pl L f) (va_pl L f) [(kT, .object RX1), (kI, .int), (kJ, .long)] sz TT)) (va_Qi (fun (r : Int32) (u : Unit) => r01 r) (fun (_ : Unit) t => ∃ f2 : Nat → va_E, PI kT kI kJ K L f2 ∧ va_P (dC, dI) vwCl (va_pl L f2) t.heap ∧ va_D (va_A (va_pl L f) sz) (va_pl L f2)) (va_A (va_pl L f) sz)) 0 0 (va_A (va_pl L f) sz) := by
  refine Met.ofW (cc := cX2_tell) (maxL := 4) (ret := (some .boolean)) (by decide) rfl ?_
  intro p e s m args below meth c s₁ B hml hv
  obtain ⟨rfl, hsz, hP, hK, hD0, hst⟩ := hv
  have hx := B.exec
  have hb := B.bytes
  have hr := B.returns
  have hts := atoms_spec (ws := wsX2_tell) B.pre
  have hown : s.vm.findClass RX2 = some m.cls := findClass_of_methodNamed B.named
  have hlocks := B.notSynchronized
  have iX0_ := in_t_X2_tell_X0
  have iX2_ := in_t_X2_tell_X2
  subst hsz
  have hD := hD0.self (sz := s.heap.size)
  generalize hAe : va_A (va_pl L f) s.heap.size = A at hD hst ⊢
  have hA : ∀ q : Nat, s.heap.size ≤ q → A q := fun q h => by rw [← hAe]; exact Or.inr h
  have hS : va_S A s.heap s.heap [] := va_S.rf
  have hl := lv_entry ([.ref h0, .ref x0, .ref y0]) (n := 4) (Nat.le_of_ble_eq_true rfl)
  rw [lg_entry_eq]
  generalize (lg_sl ([.ref h0, .ref x0, .ref y0]) ++ List.replicate (4 - (lg_sl ([.ref h0, .ref x0, .ref y0])).length) Slot.unset).toArray = ls at hl ⊢
  have hl : lv_has ls 4 [(0, .ref h0), (1, .ref x0), (2, .ref y0)] := hl
  have k0_ : Int32.toInt 0 = 0 := by decide
  have k1_ : Int32.toInt 1 = 1 := by decide
  refine W_nameQ (fun Q0 eQ => ?_)
  refine lv_aload_n hx hb dX2_tell_0 rfl (lv_at hl 2 rfl) ?_
  refine lv_iconst (v := 0) hx hb dX2_tell_1 (by decide) ?_
  obtain ⟨n_1, d_1, v_1, z_1, e_1, fn_1, fd_1, fv_1, fz_1⟩ := hPI.a0 hy0
  obtain ⟨k_1, hk_1⟩ := va_plg hy0.1 e_1
  have hD9 := hD
  have rg_2 : 0 ≤ Int32.toInt 0 ∧ Int32.toInt 0 ≤ 300 := by constructor <;> omega
  refine va_put (D := (dC, dI)) (ci := 0) (v := .int 0) (ty := .int) (C := RX0) (T := TX0) (N := 4) hx hb hts iX0_ tyX0 tyX0_ok nmX0 hown hK hP hD hS k_1 hk_1 rfl 3 (by decide) (hts (.fieldLink RX2 128 "FieldLeaves$LeafList" "size" "I") (by decide +kernel)) (fun _ h9 => h9) rfl (by decide +kernel) rfl rfl (Nat.le_of_ble_eq_true rfl) dX2_tell_2 (fun H locs hP hD hS => ?_)
  have hP : va_P (dC, dI) vwCl (va_pl L (va_up f y0 (.inr (0, [.ref n_1, .ref d_1, .ref v_1, .int 0])))) H := by rw [← va_pls hD9 hy0.1 hk_1 _]; exact hP
  have hD : va_D A (va_pl L (va_up f y0 (.inr (0, [.ref n_1, .ref d_1, .ref v_1, .int 0])))) := by rw [← va_pls hD9 hy0.1 hk_1 _]; exact hD
  have hPI := hPI.put (e := .inr (0, [.ref n_1, .ref d_1, .ref v_1, .int 0])) hy0 ⟨n_1, d_1, v_1, 0, rfl, fn_1, fd_1, fv_1, rg_2⟩
  have es_f_3 : va_up f y0 (.inr (0, [.ref n_1, .ref d_1, .ref v_1, .int 0])) y0 = .inr (0, [.ref n_1, .ref d_1, .ref v_1, .int 0]) := va_up_self _ _ _
  generalize va_up f y0 (.inr (0, [.ref n_1, .ref d_1, .ref v_1, .int 0])) = f_3 at hP hD hPI es_f_3 
  refine lv_aload_n hx hb dX2_tell_5 rfl (lv_at hl 0 rfl) ?_
  refine lv_aload_n hx hb dX2_tell_6 rfl (lv_at hl 1 rfl) ?_
  have hFc := pl_free hD hS hA
  obtain ⟨q1_4, pc_4, c1_4, c2_4, c3_4, q5_4, fc_4, q7_4, mc_4, e_4, fq1_4, fc1_4, fc2_4, fc3_4, fq5_4, ffc_4, fq7_4, fmc_4⟩ := hPI.a2 hh0
  obtain ⟨k_4, hk_4⟩ := va_plg hh0.1 e_4
  refine va_calli (va_runV (b := h0) (As := [.ref x0]) (rest := []) ⟨hx, hb, hml, hown, hts⟩ (t_X2_findFrom l dC dI TT H.size kT kI kJ K L f_3 hPI h0 hh0 x0 hx0) (cwV 1 hts gX2_tell_X2_findFrom rfl rfl rfl (by decide +kernel) ⟨Nat.le_of_ble_eq_true rfl, Nat.le_of_ble_eq_true rfl⟩) ⟨pr_blind, va_recv hK hP (ci := 2) rfl hk_4, (pr_S (ws := va_pl L f_3) (wA := va_pl L f_3) (tys := [(kT, .object RX1), (kI, .int), (kJ, .long)]) hP hK (hD.weaken (fun _ _ _ _ => trivial)) hst hS hFc).2⟩ rfl rfl hl.1 rfl (lv_room (Nat.le_of_ble_eq_true rfl)) dX2_tell_7 ⟨Nat.le_of_ble_eq_true rfl, Nat.le_of_ble_eq_true rfl⟩) hS (fun q _ h => hFc q h) hFc (fun r_5 u t H1 locs ht hvm hw hB hz1 hk1 hS => ?_)
  obtain ⟨f_6, hPI, hrel, hP, hD9⟩ := hB
  rw [ht] at hP
  have hD := hD9.weaken (fun _ q _ h => hFc q.1 h)
  generalize H1 = H at hP hS ⊢
  obtain ⟨fc_7, hFN⟩ := hrel
  obtain ⟨q1_8, pc_8, c1_8, c2_8, c3_8, q5_8, q7_8, mc_8, g_8, e_8, fq1_8, fc1_8, fc2_8, fc3_8, fq5_8, ffc_8, fq7_8, fmc_8, eg_8, fg_8, nnf_8⟩ := id hFN
  rcases hw with rfl | rfl
  · refine lv_if_ne (tgt := 15) hx hb dX2_tell_10 (by decide) (fun _ => ?_) (fun c9 => absurd c9 (by decide))
    refine lv_iconst (v := 0) hx hb dX2_tell_15 (by decide) ?_
    refine lv_istore_n (lv' := [(3, .int 0), (0, .ref h0), (1, .ref x0), (2, .ref y0)]) hx hb dX2_tell_16 rfl hl (by decide) rfl (fun ls hl => ?_)
    have loop_17 : ∀ (n : Nat) (i3 : Int32)   (fl : Nat → va_E) (H : Heap) (locs : List Loc) (ls : Array Slot), (0 ≤ i3.toInt ∧ i3.toInt ≤ 24) → (24 - i3.toInt).toNat < n → (∃ fc : Int32, FN kT K L fl h0 fc) → PI kT kI kJ K L fl → va_P (dC, dI) vwCl (va_pl L fl) H → va_D A (va_pl L fl) → va_S A s.heap H locs → lv_has ls 4 [(3, .int i3), (0, .ref h0), (1, .ref x0), (2, .ref y0)] → W p l e (headSpec wsX2_tell ({ frames := 4, cells := 0, slots := 0, locals := 98 } : Room)).room s m (([.ref h0, .ref x0, .ref y0] : List Value).toArray) below meth c H locs 0 0 Q0 (F0 m 17 ls []) := by
      intro n
      induction n with
      | zero => intro i3 fl H locs ls  _ h9; exact absurd h9 (Nat.not_lt_zero _)
      | succ n ih_17 =>
        intro i3 fl H locs ls  hI hM hFN hPI hP hD hS hl
        obtain ⟨fc_9, hFN⟩ := hFN
        obtain ⟨q1_10, pc_10, c1_10, c2_10, c3_10, q5_10, q7_10, mc_10, g_10, e_10, fq1_10, fc1_10, fc2_10, fc3_10, fq5_10, ffc_10, fq7_10, fmc_10, eg_10, fg_10, nnf_10⟩ := id hFN
        refine lv_iload_n hx hb dX2_tell_17 rfl (lv_at hl 0 rfl) ?_
        refine lv_aload_n hx hb dX2_tell_18 rfl (lv_at hl 1 rfl) ?_
        obtain ⟨k_11, hk_11⟩ := va_plg hh0.1 e_10
        refine va_get (D := (dC, dI)) (ci := 2) (v := .int fc_9) (C := RX2) (T := TX2) (N := 9) hx hb hts iX2_ hown hK hP k_11 hk_11 rfl 6 (by decide) (hts (.fieldLink RX2 188 "FieldLeaves" "foundCount" "I") (by decide +kernel)) (fun _ h9 => h9) rfl dX2_tell_19 ?_
        refine lv_icmp_ge (tgt := 42) hx hb dX2_tell_22 (by decide) (fun c_12 => ?_) (fun c_12 => ?_)
        · have c_12 := Int32.le_iff_toInt_le.mp c_12
          refine lv_iconst (v := 1) hx hb dX2_tell_42 (by decide) ?_
          subst eQ
          exact W.zret (v := 1) hx hb hr rfl (fun t ht hW => ⟨⟨1, (), rfl, Or.inl rfl, fl, hPI, by rw [ht]; exact hP, hD⟩, hS.F ht⟩) hS.2.2 dX2_tell_43
        · have c_12 := mt Int32.le_iff_toInt_le.mpr c_12
          refine lv_aload_n hx hb dX2_tell_25 rfl (lv_at hl 1 rfl) ?_
          refine lv_iload_n hx hb dX2_tell_26 rfl (lv_at hl 0 rfl) ?_
          refine lv_aload_n hx hb dX2_tell_27 rfl (lv_at hl 3 rfl) ?_
          have hFc := pl_free hD hS hA
          obtain ⟨k_13, hk_13⟩ := va_plg hh0.1 e_10
          refine va_calli (va_runV (b := h0) (As := [.int i3, .ref y0]) (rest := []) ⟨hx, hb, hml, hown, hts⟩ (t_X2_tellObject l dC dI TT H.size kT kI kJ K L fl hPI h0 hh0 i3 y0 hy0 fc_9 hFN (by constructor <;> omega)) (cwV 2 hts gX2_tell_X2_tellObject rfl rfl rfl (by decide +kernel) ⟨Nat.le_of_ble_eq_true rfl, Nat.le_of_ble_eq_true rfl⟩) ⟨pr_blind, va_recv hK hP (ci := 2) rfl hk_13, (pr_S (ws := va_pl L fl) (wA := va_pl L fl) (tys := [(kT, .object RX1), (kI, .int), (kJ, .long)]) hP hK (hD.weaken (fun _ _ _ _ => trivial)) hst hS hFc).2⟩ rfl rfl hl.1 rfl (lv_room (Nat.le_of_ble_eq_true rfl)) dX2_tell_28 ⟨Nat.le_of_ble_eq_true rfl, Nat.le_of_ble_eq_true rfl⟩) hS (fun q _ h => hFc q h) hFc (fun r_14 u t H1 locs ht hvm hw hB hz1 hk1 hS => ?_)
          obtain ⟨f_15, hPI, hrel, hP, hD9⟩ := hB
          rw [ht] at hP
          have hD := hD9.weaken (fun _ q _ h => hFc q.1 h)
          generalize H1 = H at hP hS ⊢
          have hFN := hFN.fr hh0 hrel
          rcases hw with rfl | rfl
          · refine lv_if_ne (tgt := 36) hx hb dX2_tell_31 (by decide) (fun _ => ?_) (fun c9 => absurd c9 (by decide))
            obtain ⟨i_16, ei_16⟩ : ∃ y : Int32, y = i3 + 1 := ⟨_, rfl⟩
            refine lv_iinc (v := i_16) (lv' := [(3, .int i_16), (0, .ref h0), (1, .ref x0), (2, .ref y0)]) hx hb dX2_tell_36 hl (k := 0) rfl (by rw [ei_16]; rfl) (by decide) rfl (fun ls hl => ?_)
            have ki_16 := inc_toInt ei_16 (by omega)
            refine lv_goto (tgt := 17) hx hb dX2_tell_39 (by decide) ?_
            exact ih_17 i_16 f_15 _ _ _  (by omega) (by omega) ⟨fc_9, hFN⟩ hPI hP hD hS (lv_sub hl [0, 1, 2, 3] rfl)
          · refine lv_if_ne (tgt := 36) hx hb dX2_tell_31 (by decide) (fun c9 => absurd c9 (by decide)) (fun _ => ?_)
            refine lv_iconst (v := 0) hx hb dX2_tell_34 (by decide) ?_
            subst eQ
            exact W.zret (v := 0) hx hb hr rfl (fun t ht hW => ⟨⟨0, (), rfl, Or.inr rfl, f_15, hPI, by rw [ht]; exact hP, hD⟩, hS.F ht⟩) hS.2.2 dX2_tell_35
    exact loop_17 25 0 f_6 _ _ _  (by omega) (by omega) ⟨fc_7, hFN⟩ hPI hP hD hS hl
  · refine lv_if_ne (tgt := 15) hx hb dX2_tell_10 (by decide) (fun c9 => absurd c9 (by decide)) (fun _ => ?_)
    refine lv_iconst (v := 0) hx hb dX2_tell_13 (by decide) ?_
    subst eQ
    exact W.zret (v := 0) hx hb hr rfl (fun t ht hW => ⟨⟨0, (), rfl, Or.inr rfl, f_6, hPI, by rw [ht]; exact hP, hD⟩, hS.F ht⟩) hS.2.2 dX2_tell_14
