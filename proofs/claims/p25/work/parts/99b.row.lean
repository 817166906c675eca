set_option maxRecDepth 100000 in
set_option maxHeartbeats 4000000 in
theorem u_X2_tellRow (l : Launch) (dC : Nat → ClassId) (dI : Nat → Nat → Nat) (TT : Nat × Nat × Nat) (sz : Nat) (kT kI kJ : ClassId) (K : Nat → Nat) (L : List Nat) (f : Nat → va_E) (hPI : PI kT kI kJ K L f) (n0 : Int32) (x0 : Nat) (hx0 : isr K L 4 x0) (y0 : Nat) (hy0 : isr K L 0 y0) (ow : Nat → Nat) (hOW0 : OWN K L f ow) (ll : List (Int32 × Int32 × Int64)) (hLS0 : LSt f y0 ll) : Met l yX2_tellRow wsX2_tellRow ({ frames := 1, cells := 0, slots := 0, locals := 24 } : Room) (va_Pc [.int n0, .ref x0, .ref y0] (pr dC dI (va_pl L f) (va_pl L f) [(kT, .object RX1), (kI, .int), (kJ, .long)] sz TT)) (va_Qi (fun (r : Int32) (u : Unit) => bo r ((ll ++ rowL n0 (aN (f x0)) (aI (f x0))).length ≤ 300)) (fun (_ : Unit) t => ∃ f2 : Nat → va_E, PI kT kI kJ K L f2 ∧ (TL K L ow y0 f f2 ∧ ((ll ++ rowL n0 (aN (f x0)) (aI (f x0))).length ≤ 300 → LSt f2 y0 (ll ++ rowL n0 (aN (f x0)) (aI (f x0))))) ∧ va_P (dC, dI) vwCl (va_pl L f2) t.heap ∧ va_D (va_A (va_pl L f) sz) (va_pl L f2)) (va_A (va_pl L f) sz)) 0 0 (va_A (va_pl L f) sz) := by
  refine Met.ofW (cc := cX2_tellRow) (maxL := 5) (ret := (some .boolean)) (by decide) rfl ?_
  intro p e s m args below meth c s₁ B hml hv
  obtain ⟨rfl, hsz, hP, hK, hD0, hst⟩ := hv
  have hx := B.exec
  have hb := B.bytes
  have hr := B.returns
  have hts := atoms_spec (ws := wsX2_tellRow) B.pre
  have hown : s.vm.findClass RX2 = some m.cls := findClass_of_methodNamed B.named
  have hlocks := B.notSynchronized
  subst hsz
  have hD := hD0.self (sz := s.heap.size)
  generalize hAe : va_A (va_pl L f) s.heap.size = A at hD hst ⊢
  have hA : ∀ q : Nat, s.heap.size ≤ q → A q := fun q h => by rw [← hAe]; exact Or.inr h
  have hS : va_S A s.heap s.heap [] := va_S.rf
  have hl := lv_entry ([.int n0, .ref x0, .ref y0]) (n := 5) (Nat.le_of_ble_eq_true rfl)
  rw [lg_entry_eq]
  generalize (lg_sl ([.int n0, .ref x0, .ref y0]) ++ List.replicate (5 - (lg_sl ([.int n0, .ref x0, .ref y0])).length) Slot.unset).toArray = ls at hl ⊢
  have hl : lv_has ls 5 [(0, .int n0), (1, .ref x0), (2, .ref y0)] := hl
  have k0_ : Int32.toInt 0 = 0 := by decide
  have k1_ : Int32.toInt 1 = 1 := by decide
  have k9_ : Int32.toInt 9 = 9 := by decide
  refine W_nameQ (fun Q0 eQ => ?_)
  have hOW := hOW0
  have hLS := hLS0
  have hTL : TL K L ow y0 f f := TL.rf
  obtain ⟨n_1, g_1, e_1, fn_1⟩ := hPI.a4 hx0
  have kn_1 := nI_len fn_1
  obtain ⟨k_1, hk_1⟩ := va_plg hx0.1 e_1
  have eN : aN (f x0) = n_1 := by rw [e_1]; rfl
  have eI : aI (f x0) = g_1 := by rw [e_1]; rfl
  rw [eN, eI] at eQ
  refine lv_aload_n hx hb dX2_tellRow_0 rfl (lv_at hl 2 rfl) ?_
  refine lv_iload_n hx hb dX2_tellRow_1 rfl (lv_at hl 0 rfl) ?_
  refine lv_bipush (v := 9) hx hb dX2_tellRow_2 (by decide) ?_
  refine lv_aload_n hx hb dX2_tellRow_4 rfl (lv_at hl 1 rfl) ?_
  obtain ⟨k_2, hk_2⟩ := va_plg hx0.1 e_1
  refine va_alen hx hb hK hP k_2 1 hk_2 rfl (v := Int32.ofNat n_1) rfl dX2_tellRow_5 ?_
  refine lv_i2l (v := Int32.toInt64 (Int32.ofNat n_1)) hx hb dX2_tellRow_6 rfl ?_
  have k_z_3 := Int32.toInt_toInt64 (Int32.ofNat n_1)
  have hPIo := hPI
  have hFc := pl_free hD hS hA
  obtain ⟨n_4, d_4, v_4, z_4, e_4, fn_4, fd_4, fv_4, fz_4⟩ := hPI.a0 hy0
  obtain ⟨k_4, hk_4⟩ := va_plg hy0.1 e_4
  refine va_calli (va_runV (b := y0) (As := [.int n0, .int 9, .long (Int32.toInt64 (Int32.ofNat n_1))]) (rest := []) ⟨hx, hb, hml, hown, hts⟩ (u_X0_add l dC dI TT s.heap.size kT kI kJ K L f hPI y0 hy0 n0 9 (Int32.toInt64 (Int32.ofNat n_1))) (cwV 3 hts gX2_tellRow_X0_add rfl rfl rfl (by decide +kernel) ⟨Nat.le_of_ble_eq_true rfl, Nat.le_of_ble_eq_true rfl⟩) ⟨pr_blind, va_recv hK hP (ci := 0) rfl hk_4, (pr_S (ws := va_pl L f) (wA := va_pl L f) (tys := [(kT, .object RX1), (kI, .int), (kJ, .long)]) hP hK (hD.weaken (fun _ _ _ _ => trivial)) hst hS hFc).2⟩ rfl rfl hl.1 rfl (lv_room (Nat.le_of_ble_eq_true rfl)) dX2_tellRow_7 ⟨Nat.le_of_ble_eq_true rfl, Nat.le_of_ble_eq_true rfl⟩) hS (fun q _ h => hFc q h) hFc (fun r_5 u t H1 locs ht hvm hw hB hz1 hk1 hS => ?_)
  obtain ⟨f_6, hPI, hrel, hP, hD9⟩ := hB
  rw [ht] at hP
  have hD := hD9.weaken (fun _ q _ h => hFc q.1 h)
  have hr_f_6 := hrel
  generalize H1 = H at hP hS ⊢
  obtain ⟨⟨hTL1, hOW⟩, hd_7⟩ := add_told hPIo hOW hy0 hLS hw hrel
  have hTL := hTL.tr hTL1
  have eq_8 := (hTL1.at hy0 hx0 (by decide)).trans e_1
  rcases hd_7 with ⟨rfl, hLS, hle⟩ | ⟨rfl, hov⟩
  · refine lv_istore_n (lv' := [(3, .int 1), (0, .int n0), (1, .ref x0), (2, .ref y0)]) hx hb dX2_tellRow_10 rfl hl (by decide) rfl (fun ls hl => ?_)
    refine lv_iconst (v := 0) hx hb dX2_tellRow_11 (by decide) ?_
    refine lv_istore (lv' := [(4, .int 0), (3, .int 1), (0, .int n0), (1, .ref x0), (2, .ref y0)]) hx hb dX2_tellRow_12 hl (by decide) rfl (fun ls hl => ?_)
    have loop_14 : ∀ (n : Nat) (i4 : Int32) (b3 : Int32)  (fl : Nat → va_E) (H : Heap) (locs : List Loc) (ls : Array Slot), r01 b3 → (0 ≤ i4.toInt ∧ i4.toInt ≤ 20) → (20 - i4.toInt).toNat < n → (TL K L ow y0 f fl ∧ ((b3 = 1 ∧ LSt fl y0 (ll ++ rowLp n0 n_1 g_1 (Int32.toNatClampNeg i4)) ∧ i4.toInt ≤ (n_1 : Int)) ∨ (b3 = 0 ∧ 300 < (ll ++ rowL n0 n_1 g_1).length))) → PI kT kI kJ K L fl → va_P (dC, dI) vwCl (va_pl L fl) H → va_D A (va_pl L fl) → va_S A s.heap H locs → lv_has ls 5 [(4, .int i4), (3, .int b3), (0, .int n0), (1, .ref x0), (2, .ref y0)] → W p l e (headSpec wsX2_tellRow ({ frames := 1, cells := 0, slots := 0, locals := 24 } : Room)).room s m (([.int n0, .ref x0, .ref y0] : List Value).toArray) below meth c H locs 0 0 Q0 (F0 m 14 ls []) := by
      intro n
      induction n with
      | zero => intro i4 b3 fl H locs ls _ _ h9; exact absurd h9 (Nat.not_lt_zero _)
      | succ n ih_14 =>
        intro i4 b3 fl H locs ls fb3 hI hM hFN hPI hP hD hS hl
        obtain ⟨hTL, hDJ⟩ := hFN
        have hOW := hTL.own hy0 hOW0
        have eq_9 := (hTL.at hy0 hx0 (by decide)).trans e_1
        rcases fb3 with rfl | rfl
        · have hl : lv_has ls 5 [(4, .int i4), (3, .int 1), (0, .int n0), (1, .ref x0), (2, .ref y0)] := hl
          refine lv_iload hx hb dX2_tellRow_14 (lv_at hl 0 rfl) ?_
          refine lv_aload_n hx hb dX2_tellRow_16 rfl (lv_at hl 3 rfl) ?_
          obtain ⟨k_10, hk_10⟩ := va_plg hx0.1 eq_9
          refine va_alen hx hb hK hP k_10 1 hk_10 rfl (v := Int32.ofNat n_1) rfl dX2_tellRow_17 ?_
          refine lv_icmp_ge (tgt := 47) hx hb dX2_tellRow_18 (by decide) (fun c_11 => ?_) (fun c_11 => ?_)
          · have c_11 := Int32.le_iff_toInt_le.mp c_11
            refine lv_iload_n hx hb dX2_tellRow_47 rfl (lv_at hl 1 rfl) ?_
            subst eQ
            exact W.zret (v := 1) hx hb hr rfl (fun t ht hW => ⟨⟨1, (), rfl, Or.inl ⟨rfl, by rw [← row_fin (i := i4) (by omega) (by have h8 := ((hDJ.resolve_right (fun h9 => absurd h9.1 (by decide))).2).2; omega)]; exact LSt.le ((hDJ.resolve_right (fun h9 => absurd h9.1 (by decide))).2).1 hPI hy0⟩, fl, hPI, ⟨hTL, fun _ => by rw [← row_fin (i := i4) (by omega) (by have h8 := ((hDJ.resolve_right (fun h9 => absurd h9.1 (by decide))).2).2; omega)]; exact ((hDJ.resolve_right (fun h9 => absurd h9.1 (by decide))).2).1⟩, by rw [ht]; exact hP, hD⟩, hS.F ht⟩) hS.2.2 dX2_tellRow_48
          · have c_11 := mt Int32.le_iff_toInt_le.mpr c_11
            refine lv_iload_n hx hb dX2_tellRow_21 rfl (lv_at hl 1 rfl) ?_
            refine lv_if_eq (tgt := 47) hx hb dX2_tellRow_22 (by decide) (fun c9 => absurd c9 (by decide)) (fun _ => ?_)
            refine lv_aload_n hx hb dX2_tellRow_25 rfl (lv_at hl 4 rfl) ?_
            refine lv_iload_n hx hb dX2_tellRow_26 rfl (lv_at hl 2 rfl) ?_
            refine lv_bipush (v := 100) hx hb dX2_tellRow_27 (by decide) ?_
            refine lv_iload hx hb dX2_tellRow_29 (lv_at hl 0 rfl) ?_
            refine lv_iadd hx hb dX2_tellRow_31 ?_
            refine lv_topi (fun z_12 ez_12 => ?_)
            refine lv_aload_n hx hb dX2_tellRow_32 rfl (lv_at hl 3 rfl) ?_
            refine lv_iload hx hb dX2_tellRow_33 (lv_at hl 0 rfl) ?_
            obtain ⟨k_13, hk_13⟩ := va_plg hx0.1 eq_9
            have h_13 : vp_in i4 n_1 := (vp_in_iff.mpr (by constructor <;> omega))
            refine va_iald hx hb hK hP k_13 1 hk_13 rfl h_13 dX2_tellRow_35 ?_
            refine lv_topi (fun z_13 ez_13 => ?_)
            refine lv_i2l (v := Int32.toInt64 z_13) hx hb dX2_tellRow_36 rfl ?_
            have k_z_14 := Int32.toInt_toInt64 z_13
            have hLS := ((hDJ.resolve_right (fun h9 => absurd h9.1 (by decide))).2).1
            have hPIo := hPI
            have hFc := pl_free hD hS hA
            obtain ⟨n_15, d_15, v_15, z_15, e_15, fn_15, fd_15, fv_15, fz_15⟩ := hPI.a0 hy0
            obtain ⟨k_15, hk_15⟩ := va_plg hy0.1 e_15
            refine va_calli (va_runV (b := y0) (As := [.int n0, .int z_12, .long (Int32.toInt64 z_13)]) (rest := []) ⟨hx, hb, hml, hown, hts⟩ (u_X0_add l dC dI TT H.size kT kI kJ K L fl hPI y0 hy0 n0 z_12 (Int32.toInt64 z_13)) (cwV 3 hts gX2_tellRow_X0_add rfl rfl rfl (by decide +kernel) ⟨Nat.le_of_ble_eq_true rfl, Nat.le_of_ble_eq_true rfl⟩) ⟨pr_blind, va_recv hK hP (ci := 0) rfl hk_15, (pr_S (ws := va_pl L fl) (wA := va_pl L fl) (tys := [(kT, .object RX1), (kI, .int), (kJ, .long)]) hP hK (hD.weaken (fun _ _ _ _ => trivial)) hst hS hFc).2⟩ rfl rfl hl.1 rfl (lv_room (Nat.le_of_ble_eq_true rfl)) dX2_tellRow_37 ⟨Nat.le_of_ble_eq_true rfl, Nat.le_of_ble_eq_true rfl⟩) hS (fun q _ h => hFc q h) hFc (fun r_16 u t H1 locs ht hvm hw hB hz1 hk1 hS => ?_)
            obtain ⟨f_17, hPI, hrel, hP, hD9⟩ := hB
            rw [ht] at hP
            have hD := hD9.weaken (fun _ q _ h => hFc q.1 h)
            have hr_f_17 := hrel
            generalize H1 = H at hP hS ⊢
            obtain ⟨⟨hTL1, hOW⟩, hd_18⟩ := add_told hPIo hOW hy0 hLS hw hrel
            have hTL := hTL.tr hTL1
            have eq_19 := (hTL1.at hy0 hx0 (by decide)).trans eq_9
            rcases hd_18 with ⟨rfl, hLS, hle⟩ | ⟨rfl, hov⟩
            · refine lv_istore_n (lv' := [(3, .int 1), (4, .int i4), (0, .int n0), (1, .ref x0), (2, .ref y0)]) hx hb dX2_tellRow_40 rfl hl (by decide) rfl (fun ls hl => ?_)
              obtain ⟨i_20, ei_20⟩ : ∃ y : Int32, y = i4 + 1 := ⟨_, rfl⟩
              refine lv_iinc (v := i_20) (lv' := [(4, .int i_20), (3, .int 1), (0, .int n0), (1, .ref x0), (2, .ref y0)]) hx hb dX2_tellRow_41 hl (k := 1) rfl (by rw [ei_20]; rfl) (by decide) rfl (fun ls hl => ?_)
              have ki_20 := inc_toInt ei_20 (by omega)
              refine lv_goto (tgt := 14) hx hb dX2_tellRow_44 (by decide) ?_
              exact ih_14 i_20 1 f_17 _ _ _ (Or.inl rfl) (by omega) (by omega) ⟨hTL, Or.inl ⟨rfl, by rw [row_step (i := i4) (i2 := i_20) (by omega) ez_12 ez_13 ki_20]; exact hLS, by omega⟩⟩ hPI hP hD hS (lv_sub hl [0, 1, 2, 3, 4] rfl)
            · refine lv_istore_n (lv' := [(3, .int 0), (4, .int i4), (0, .int n0), (1, .ref x0), (2, .ref y0)]) hx hb dX2_tellRow_40 rfl hl (by decide) rfl (fun ls hl => ?_)
              obtain ⟨i_21, ei_21⟩ : ∃ y : Int32, y = i4 + 1 := ⟨_, rfl⟩
              refine lv_iinc (v := i_21) (lv' := [(4, .int i_21), (3, .int 0), (0, .int n0), (1, .ref x0), (2, .ref y0)]) hx hb dX2_tellRow_41 hl (k := 1) rfl (by rw [ei_21]; rfl) (by decide) rfl (fun ls hl => ?_)
              have ki_21 := inc_toInt ei_21 (by omega)
              refine lv_goto (tgt := 14) hx hb dX2_tellRow_44 (by decide) ?_
              exact ih_14 i_21 0 f_17 _ _ _ (Or.inr rfl) (by omega) (by omega) ⟨hTL, Or.inr ⟨rfl, by rw [← row_step (i := i4) (i2 := i_21) (by omega) ez_12 ez_13 ki_21] at hov; exact Nat.lt_of_lt_of_le hov (row_le (by have h8 := clamp_int (i := i_21) (by omega); omega))⟩⟩ hPI hP hD hS (lv_sub hl [0, 1, 2, 3, 4] rfl)
        · have hl : lv_has ls 5 [(4, .int i4), (3, .int 0), (0, .int n0), (1, .ref x0), (2, .ref y0)] := hl
          refine lv_iload hx hb dX2_tellRow_14 (lv_at hl 0 rfl) ?_
          refine lv_aload_n hx hb dX2_tellRow_16 rfl (lv_at hl 3 rfl) ?_
          obtain ⟨k_22, hk_22⟩ := va_plg hx0.1 eq_9
          refine va_alen hx hb hK hP k_22 1 hk_22 rfl (v := Int32.ofNat n_1) rfl dX2_tellRow_17 ?_
          refine lv_icmp_ge (tgt := 47) hx hb dX2_tellRow_18 (by decide) (fun c_23 => ?_) (fun c_23 => ?_)
          · have c_23 := Int32.le_iff_toInt_le.mp c_23
            refine lv_iload_n hx hb dX2_tellRow_47 rfl (lv_at hl 1 rfl) ?_
            subst eQ
            exact W.zret (v := 0) hx hb hr rfl (fun t ht hW => ⟨⟨0, (), rfl, Or.inr ⟨rfl, by have h8 := ((hDJ.resolve_left (fun h9 => absurd h9.1 (by decide))).2); omega⟩, fl, hPI, ⟨hTL, fun h9 => by have h8 := ((hDJ.resolve_left (fun h9 => absurd h9.1 (by decide))).2); omega⟩, by rw [ht]; exact hP, hD⟩, hS.F ht⟩) hS.2.2 dX2_tellRow_48
          · have c_23 := mt Int32.le_iff_toInt_le.mpr c_23
            refine lv_iload_n hx hb dX2_tellRow_21 rfl (lv_at hl 1 rfl) ?_
            refine lv_if_eq (tgt := 47) hx hb dX2_tellRow_22 (by decide) (fun _ => ?_) (fun c9 => absurd c9 (by decide))
            refine lv_iload_n hx hb dX2_tellRow_47 rfl (lv_at hl 1 rfl) ?_
            subst eQ
            exact W.zret (v := 0) hx hb hr rfl (fun t ht hW => ⟨⟨0, (), rfl, Or.inr ⟨rfl, by have h8 := ((hDJ.resolve_left (fun h9 => absurd h9.1 (by decide))).2); omega⟩, fl, hPI, ⟨hTL, fun h9 => by have h8 := ((hDJ.resolve_left (fun h9 => absurd h9.1 (by decide))).2); omega⟩, by rw [ht]; exact hP, hD⟩, hS.F ht⟩) hS.2.2 dX2_tellRow_48
    exact loop_14 21 0 1 f_6 _ _ _ (Or.inl rfl) (by omega) (by omega) ⟨hTL, Or.inl ⟨rfl, by rw [cl_0]; exact hLS, by omega⟩⟩ hPI hP hD hS hl
  · refine lv_istore_n (lv' := [(3, .int 0), (0, .int n0), (1, .ref x0), (2, .ref y0)]) hx hb dX2_tellRow_10 rfl hl (by decide) rfl (fun ls hl => ?_)
    refine lv_iconst (v := 0) hx hb dX2_tellRow_11 (by decide) ?_
    refine lv_istore (lv' := [(4, .int 0), (3, .int 0), (0, .int n0), (1, .ref x0), (2, .ref y0)]) hx hb dX2_tellRow_12 hl (by decide) rfl (fun ls hl => ?_)
    have loop_14 : ∀ (n : Nat) (i4 : Int32) (b3 : Int32)  (fl : Nat → va_E) (H : Heap) (locs : List Loc) (ls : Array Slot), r01 b3 → (0 ≤ i4.toInt ∧ i4.toInt ≤ 20) → (20 - i4.toInt).toNat < n → (TL K L ow y0 f fl ∧ ((b3 = 1 ∧ LSt fl y0 (ll ++ rowLp n0 n_1 g_1 (Int32.toNatClampNeg i4)) ∧ i4.toInt ≤ (n_1 : Int)) ∨ (b3 = 0 ∧ 300 < (ll ++ rowL n0 n_1 g_1).length))) → PI kT kI kJ K L fl → va_P (dC, dI) vwCl (va_pl L fl) H → va_D A (va_pl L fl) → va_S A s.heap H locs → lv_has ls 5 [(4, .int i4), (3, .int b3), (0, .int n0), (1, .ref x0), (2, .ref y0)] → W p l e (headSpec wsX2_tellRow ({ frames := 1, cells := 0, slots := 0, locals := 24 } : Room)).room s m (([.int n0, .ref x0, .ref y0] : List Value).toArray) below meth c H locs 0 0 Q0 (F0 m 14 ls []) := by
      intro n
      induction n with
      | zero => intro i4 b3 fl H locs ls _ _ h9; exact absurd h9 (Nat.not_lt_zero _)
      | succ n ih_14 =>
        intro i4 b3 fl H locs ls fb3 hI hM hFN hPI hP hD hS hl
        obtain ⟨hTL, hDJ⟩ := hFN
        have hOW := hTL.own hy0 hOW0
        have eq_24 := (hTL.at hy0 hx0 (by decide)).trans e_1
        rcases fb3 with rfl | rfl
        · have hl : lv_has ls 5 [(4, .int i4), (3, .int 1), (0, .int n0), (1, .ref x0), (2, .ref y0)] := hl
          refine lv_iload hx hb dX2_tellRow_14 (lv_at hl 0 rfl) ?_
          refine lv_aload_n hx hb dX2_tellRow_16 rfl (lv_at hl 3 rfl) ?_
          obtain ⟨k_25, hk_25⟩ := va_plg hx0.1 eq_24
          refine va_alen hx hb hK hP k_25 1 hk_25 rfl (v := Int32.ofNat n_1) rfl dX2_tellRow_17 ?_
          refine lv_icmp_ge (tgt := 47) hx hb dX2_tellRow_18 (by decide) (fun c_26 => ?_) (fun c_26 => ?_)
          · have c_26 := Int32.le_iff_toInt_le.mp c_26
            refine lv_iload_n hx hb dX2_tellRow_47 rfl (lv_at hl 1 rfl) ?_
            subst eQ
            exact W.zret (v := 1) hx hb hr rfl (fun t ht hW => ⟨⟨1, (), rfl, Or.inl ⟨rfl, by rw [← row_fin (i := i4) (by omega) (by have h8 := ((hDJ.resolve_right (fun h9 => absurd h9.1 (by decide))).2).2; omega)]; exact LSt.le ((hDJ.resolve_right (fun h9 => absurd h9.1 (by decide))).2).1 hPI hy0⟩, fl, hPI, ⟨hTL, fun _ => by rw [← row_fin (i := i4) (by omega) (by have h8 := ((hDJ.resolve_right (fun h9 => absurd h9.1 (by decide))).2).2; omega)]; exact ((hDJ.resolve_right (fun h9 => absurd h9.1 (by decide))).2).1⟩, by rw [ht]; exact hP, hD⟩, hS.F ht⟩) hS.2.2 dX2_tellRow_48
          · have c_26 := mt Int32.le_iff_toInt_le.mpr c_26
            refine lv_iload_n hx hb dX2_tellRow_21 rfl (lv_at hl 1 rfl) ?_
            refine lv_if_eq (tgt := 47) hx hb dX2_tellRow_22 (by decide) (fun c9 => absurd c9 (by decide)) (fun _ => ?_)
            refine lv_aload_n hx hb dX2_tellRow_25 rfl (lv_at hl 4 rfl) ?_
            refine lv_iload_n hx hb dX2_tellRow_26 rfl (lv_at hl 2 rfl) ?_
            refine lv_bipush (v := 100) hx hb dX2_tellRow_27 (by decide) ?_
            refine lv_iload hx hb dX2_tellRow_29 (lv_at hl 0 rfl) ?_
            refine lv_iadd hx hb dX2_tellRow_31 ?_
            refine lv_topi (fun z_27 ez_27 => ?_)
            refine lv_aload_n hx hb dX2_tellRow_32 rfl (lv_at hl 3 rfl) ?_
            refine lv_iload hx hb dX2_tellRow_33 (lv_at hl 0 rfl) ?_
            obtain ⟨k_28, hk_28⟩ := va_plg hx0.1 eq_24
            have h_28 : vp_in i4 n_1 := (vp_in_iff.mpr (by constructor <;> omega))
            refine va_iald hx hb hK hP k_28 1 hk_28 rfl h_28 dX2_tellRow_35 ?_
            refine lv_topi (fun z_28 ez_28 => ?_)
            refine lv_i2l (v := Int32.toInt64 z_28) hx hb dX2_tellRow_36 rfl ?_
            have k_z_29 := Int32.toInt_toInt64 z_28
            have hLS := ((hDJ.resolve_right (fun h9 => absurd h9.1 (by decide))).2).1
            have hPIo := hPI
            have hFc := pl_free hD hS hA
            obtain ⟨n_30, d_30, v_30, z_30, e_30, fn_30, fd_30, fv_30, fz_30⟩ := hPI.a0 hy0
            obtain ⟨k_30, hk_30⟩ := va_plg hy0.1 e_30
            refine va_calli (va_runV (b := y0) (As := [.int n0, .int z_27, .long (Int32.toInt64 z_28)]) (rest := []) ⟨hx, hb, hml, hown, hts⟩ (u_X0_add l dC dI TT H.size kT kI kJ K L fl hPI y0 hy0 n0 z_27 (Int32.toInt64 z_28)) (cwV 3 hts gX2_tellRow_X0_add rfl rfl rfl (by decide +kernel) ⟨Nat.le_of_ble_eq_true rfl, Nat.le_of_ble_eq_true rfl⟩) ⟨pr_blind, va_recv hK hP (ci := 0) rfl hk_30, (pr_S (ws := va_pl L fl) (wA := va_pl L fl) (tys := [(kT, .object RX1), (kI, .int), (kJ, .long)]) hP hK (hD.weaken (fun _ _ _ _ => trivial)) hst hS hFc).2⟩ rfl rfl hl.1 rfl (lv_room (Nat.le_of_ble_eq_true rfl)) dX2_tellRow_37 ⟨Nat.le_of_ble_eq_true rfl, Nat.le_of_ble_eq_true rfl⟩) hS (fun q _ h => hFc q h) hFc (fun r_31 u t H1 locs ht hvm hw hB hz1 hk1 hS => ?_)
            obtain ⟨f_32, hPI, hrel, hP, hD9⟩ := hB
            rw [ht] at hP
            have hD := hD9.weaken (fun _ q _ h => hFc q.1 h)
            have hr_f_32 := hrel
            generalize H1 = H at hP hS ⊢
            obtain ⟨⟨hTL1, hOW⟩, hd_33⟩ := add_told hPIo hOW hy0 hLS hw hrel
            have hTL := hTL.tr hTL1
            have eq_34 := (hTL1.at hy0 hx0 (by decide)).trans eq_24
            rcases hd_33 with ⟨rfl, hLS, hle⟩ | ⟨rfl, hov⟩
            · refine lv_istore_n (lv' := [(3, .int 1), (4, .int i4), (0, .int n0), (1, .ref x0), (2, .ref y0)]) hx hb dX2_tellRow_40 rfl hl (by decide) rfl (fun ls hl => ?_)
              obtain ⟨i_35, ei_35⟩ : ∃ y : Int32, y = i4 + 1 := ⟨_, rfl⟩
              refine lv_iinc (v := i_35) (lv' := [(4, .int i_35), (3, .int 1), (0, .int n0), (1, .ref x0), (2, .ref y0)]) hx hb dX2_tellRow_41 hl (k := 1) rfl (by rw [ei_35]; rfl) (by decide) rfl (fun ls hl => ?_)
              have ki_35 := inc_toInt ei_35 (by omega)
              refine lv_goto (tgt := 14) hx hb dX2_tellRow_44 (by decide) ?_
              exact ih_14 i_35 1 f_32 _ _ _ (Or.inl rfl) (by omega) (by omega) ⟨hTL, Or.inl ⟨rfl, by rw [row_step (i := i4) (i2 := i_35) (by omega) ez_27 ez_28 ki_35]; exact hLS, by omega⟩⟩ hPI hP hD hS (lv_sub hl [0, 1, 2, 3, 4] rfl)
            · refine lv_istore_n (lv' := [(3, .int 0), (4, .int i4), (0, .int n0), (1, .ref x0), (2, .ref y0)]) hx hb dX2_tellRow_40 rfl hl (by decide) rfl (fun ls hl => ?_)
              obtain ⟨i_36, ei_36⟩ : ∃ y : Int32, y = i4 + 1 := ⟨_, rfl⟩
              refine lv_iinc (v := i_36) (lv' := [(4, .int i_36), (3, .int 0), (0, .int n0), (1, .ref x0), (2, .ref y0)]) hx hb dX2_tellRow_41 hl (k := 1) rfl (by rw [ei_36]; rfl) (by decide) rfl (fun ls hl => ?_)
              have ki_36 := inc_toInt ei_36 (by omega)
              refine lv_goto (tgt := 14) hx hb dX2_tellRow_44 (by decide) ?_
              exact ih_14 i_36 0 f_32 _ _ _ (Or.inr rfl) (by omega) (by omega) ⟨hTL, Or.inr ⟨rfl, by rw [← row_step (i := i4) (i2 := i_36) (by omega) ez_27 ez_28 ki_36] at hov; exact Nat.lt_of_lt_of_le hov (row_le (by have h8 := clamp_int (i := i_36) (by omega); omega))⟩⟩ hPI hP hD hS (lv_sub hl [0, 1, 2, 3, 4] rfl)
        · have hl : lv_has ls 5 [(4, .int i4), (3, .int 0), (0, .int n0), (1, .ref x0), (2, .ref y0)] := hl
          refine lv_iload hx hb dX2_tellRow_14 (lv_at hl 0 rfl) ?_
          refine lv_aload_n hx hb dX2_tellRow_16 rfl (lv_at hl 3 rfl) ?_
          obtain ⟨k_37, hk_37⟩ := va_plg hx0.1 eq_24
          refine va_alen hx hb hK hP k_37 1 hk_37 rfl (v := Int32.ofNat n_1) rfl dX2_tellRow_17 ?_
          refine lv_icmp_ge (tgt := 47) hx hb dX2_tellRow_18 (by decide) (fun c_38 => ?_) (fun c_38 => ?_)
          · have c_38 := Int32.le_iff_toInt_le.mp c_38
            refine lv_iload_n hx hb dX2_tellRow_47 rfl (lv_at hl 1 rfl) ?_
            subst eQ
            exact W.zret (v := 0) hx hb hr rfl (fun t ht hW => ⟨⟨0, (), rfl, Or.inr ⟨rfl, by have h8 := ((hDJ.resolve_left (fun h9 => absurd h9.1 (by decide))).2); omega⟩, fl, hPI, ⟨hTL, fun h9 => by have h8 := ((hDJ.resolve_left (fun h9 => absurd h9.1 (by decide))).2); omega⟩, by rw [ht]; exact hP, hD⟩, hS.F ht⟩) hS.2.2 dX2_tellRow_48
          · have c_38 := mt Int32.le_iff_toInt_le.mpr c_38
            refine lv_iload_n hx hb dX2_tellRow_21 rfl (lv_at hl 1 rfl) ?_
            refine lv_if_eq (tgt := 47) hx hb dX2_tellRow_22 (by decide) (fun _ => ?_) (fun c9 => absurd c9 (by decide))
            refine lv_iload_n hx hb dX2_tellRow_47 rfl (lv_at hl 1 rfl) ?_
            subst eQ
            exact W.zret (v := 0) hx hb hr rfl (fun t ht hW => ⟨⟨0, (), rfl, Or.inr ⟨rfl, by have h8 := ((hDJ.resolve_left (fun h9 => absurd h9.1 (by decide))).2); omega⟩, fl, hPI, ⟨hTL, fun h9 => by have h8 := ((hDJ.resolve_left (fun h9 => absurd h9.1 (by decide))).2); omega⟩, by rw [ht]; exact hP, hD⟩, hS.F ht⟩) hS.2.2 dX2_tellRow_48
    exact loop_14 21 0 0 f_6 _ _ _ (Or.inr rfl) (by omega) (by omega) ⟨hTL, Or.inr ⟨rfl, Nat.lt_of_lt_of_le hov (row_le (i := 0) (Nat.zero_le _))⟩⟩ hPI hP hD hS hl

