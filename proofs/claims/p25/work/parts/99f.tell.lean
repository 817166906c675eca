set_option maxRecDepth 20000 in
theorem in_u_X2_tell_X0 : ∀ w ∈ u_ws RX0 TX0 4, w ∈ wsX2_tell := by decide +kernel
set_option maxRecDepth 20000 in
theorem in_u_X2_tell_X2 : ∀ w ∈ u_ws RX2 TX2 9, w ∈ wsX2_tell := by decide +kernel
set_option maxRecDepth 100000 in
set_option maxHeartbeats 4000000 in
theorem u_X2_tell (l : Launch) (dC : Nat → ClassId) (dI : Nat → Nat → Nat) (TT : Nat × Nat × Nat) (sz : Nat) (kT kI kJ : ClassId) (K : Nat → Nat) (L : List Nat) (f : Nat → va_E) (hPI : PI kT kI kJ K L f) (h0 : Nat) (hh0 : isr K L 2 h0) (x0 : Nat) (hx0 : isr K L 1 x0) (y0 : Nat) (hy0 : isr K L 0 y0) (ow : Nat → Nat) (hOW0 : OWN K L f ow) : Met l yX2_tell wsX2_tell ({ frames := 4, cells := 0, slots := 0, locals := 98 } : Room) (va_Pc [.ref h0, .ref x0, .ref y0] (pr dC dI (va_pl L f) (va_pl L f) [(kT, .object RX1), (kI, .int), (kJ, .long)] sz TT)) (va_Qi (fun (r : Int32) (u : Unit) => bo r ((tlS (-1) (g_cn f) (g_vl f) (g_lk f) (g_rw f) x0).isSome = true)) (fun (_ : Unit) t => ∃ f2 : Nat → va_E, PI kT kI kJ K L f2 ∧ (TF K L ow y0 h0 f f2 ∧ ∀ ls, tlS (-1) (g_cn f) (g_vl f) (g_lk f) (g_rw f) x0 = some ls → LSt f2 y0 ls) ∧ va_P (dC, dI) vwCl (va_pl L f2) t.heap ∧ va_D (va_A (va_pl L f) sz) (va_pl L f2)) (va_A (va_pl L f) sz)) 0 0 (va_A (va_pl L f) sz) := by
  refine Met.ofW (cc := cX2_tell) (maxL := 4) (ret := (some .boolean)) (by decide) rfl ?_
  intro p e s m args below meth c s₁ B hml hv
  obtain ⟨rfl, hsz, hP, hK, hD0, hst⟩ := hv
  have hx := B.exec
  have hb := B.bytes
  have hr := B.returns
  have hts := atoms_spec (ws := wsX2_tell) B.pre
  have hown : s.vm.findClass RX2 = some m.cls := findClass_of_methodNamed B.named
  have hlocks := B.notSynchronized
  have iX0_ := in_u_X2_tell_X0
  have iX2_ := in_u_X2_tell_X2
  subst hsz
  have hD := hD0.self (sz := s.heap.size)
  generalize hAe : va_A (va_pl L f) s.heap.size = A at hD hst ⊢
  have hA : ∀ q : Nat, s.heap.size ≤ q → A q := fun q h => by rw [← hAe]; exact Or.inr h
  have hS : va_S A s.heap s.heap [] := va_S.rf
  have hl := lv_entry ([.ref h0, .ref x0, .ref y0]) (n := 4) (Nat.le_of_ble_eq_true rfl)
  rw [lg_entry_eq]
  generalize (lg_sl ([.ref h0, .ref x0, .ref y0]) ++ List.replicate (4 - (lg_sl ([.ref h0, .ref x0, .ref y0])).length) Slot.unset).toArray = ls at hl ⊢
  have hl : lv_has ls 4 [(0, .ref h0), (1, .ref x0), (2, .ref y0)] := hl
  have k0_ : Int32.toInt 0 = 0 := by decide
  have k1_ : Int32.toInt 1 = 1 := by decide
  refine W_nameQ (fun Q0 eQ => ?_)
  have hPI0 := hPI
  refine lv_aload_n hx hb dX2_tell_0 rfl (lv_at hl 2 rfl) ?_
  refine lv_iconst (v := 0) hx hb dX2_tell_1 (by decide) ?_
  obtain ⟨n_1, d_1, v_1, z_1, e_1, fn_1, fd_1, fv_1, fz_1⟩ := hPI.a0 hy0
  obtain ⟨k_1, hk_1⟩ := va_plg hy0.1 e_1
  have hD9 := hD
  have rg_2 : 0 ≤ Int32.toInt 0 ∧ Int32.toInt 0 ≤ 300 := by constructor <;> omega
  refine va_put (D := (dC, dI)) (ci := 0) (v := .int 0) (ty := .int) (C := RX0) (T := TX0) (N := 4) hx hb hts iX0_ tyX0 tyX0_ok nmX0 hown hK hP hD hS k_1 hk_1 rfl 3 (by decide) (hts (.fieldLink RX2 128 "FieldLeaves$LeafList" "size" "I") (by decide +kernel)) (fun _ h9 => h9) rfl (by decide +kernel) rfl rfl (Nat.le_of_ble_eq_true rfl) dX2_tell_2 (fun H locs hP hD hS => ?_)
  have hP : va_P (dC, dI) vwCl (va_pl L (va_up f y0 (.inr (0, [.ref n_1, .ref d_1, .ref v_1, .int 0])))) H := by rw [← va_pls hD9 hy0.1 hk_1 _]; exact hP
  have hD : va_D A (va_pl L (va_up f y0 (.inr (0, [.ref n_1, .ref d_1, .ref v_1, .int 0])))) := by rw [← va_pls hD9 hy0.1 hk_1 _]; exact hD
  have hPI := hPI.put (e := .inr (0, [.ref n_1, .ref d_1, .ref v_1, .int 0])) hy0 ⟨n_1, d_1, v_1, 0, rfl, fn_1, fd_1, fv_1, rg_2⟩
  have es_f_3 : va_up f y0 (.inr (0, [.ref n_1, .ref d_1, .ref v_1, .int 0])) y0 = .inr (0, [.ref n_1, .ref d_1, .ref v_1, .int 0]) := va_up_self _ _ _
  generalize hg_f_3 : va_up f y0 (.inr (0, [.ref n_1, .ref d_1, .ref v_1, .int 0])) = f_3 at hP hD hPI es_f_3 
  refine lv_aload_n hx hb dX2_tell_5 rfl (lv_at hl 0 rfl) ?_
  refine lv_aload_n hx hb dX2_tell_6 rfl (lv_at hl 1 rfl) ?_
  obtain ⟨hTL1, hLS, hgl⟩ := size_0 (ow := ow) hy0 e_1 hg_f_3 k0_
  have hOW := hTL1.own hy0 hOW0
  have hPIf := hPI
  have hFc := pl_free hD hS hA
  obtain ⟨q1_4, pc_4, c1_4, c2_4, c3_4, q5_4, fc_4, q7_4, mc_4, e_4, fq1_4, fc1_4, fc2_4, fc3_4, fq5_4, ffc_4, fq7_4, fmc_4⟩ := hPI.a2 hh0
  obtain ⟨k_4, hk_4⟩ := va_plg hh0.1 e_4
  refine va_calli (va_runV (b := h0) (As := [.ref x0]) (rest := []) ⟨hx, hb, hml, hown, hts⟩ (u_X2_findFrom l dC dI TT H.size kT kI kJ K L f_3 hPI h0 hh0 x0 hx0) (cwV 1 hts gX2_tell_X2_findFrom rfl rfl rfl (by decide +kernel) ⟨Nat.le_of_ble_eq_true rfl, Nat.le_of_ble_eq_true rfl⟩) ⟨pr_blind, va_recv hK hP (ci := 2) rfl hk_4, (pr_S (ws := va_pl L f_3) (wA := va_pl L f_3) (tys := [(kT, .object RX1), (kI, .int), (kJ, .long)]) hP hK (hD.weaken (fun _ _ _ _ => trivial)) hst hS hFc).2⟩ rfl rfl hl.1 rfl (lv_room (Nat.le_of_ble_eq_true rfl)) dX2_tell_7 ⟨Nat.le_of_ble_eq_true rfl, Nat.le_of_ble_eq_true rfl⟩) hS (fun q _ h => hFc q h) hFc (fun r_5 u t H1 locs ht hvm hw hB hz1 hk1 hS => ?_)
  obtain ⟨f_6, hPI, hrel, hP, hD9⟩ := hB
  rw [ht] at hP
  have hD := hD9.weaken (fun _ q _ h => hFc q.1 h)
  generalize H1 = H at hP hS ⊢
  obtain ⟨hFF, hfs1⟩ := hrel
  rw [hgl] at hw hfs1
  have hTF := (TF.ofTL hh0 hy0 hTL1).tr (TF.ofFF hy0 hFF)
  rcases hw with ⟨rfl, hp_7⟩ | ⟨rfl, hp_7⟩
  have hPI0y := hPIf
  · obtain ⟨lf, hlf⟩ := Option.isSome_iff_exists.mp hp_7
    obtain ⟨hFS, hl24, hall⟩ := hfs1 lf hlf
    have hLS : LSt f_6 y0 (lall (tls (-1) (g_cn f) (g_vl f) (g_lk f) (g_rw f) lf) 0) := hFF.ls hPI0y hy0 hLS
    refine lv_if_ne (tgt := 15) hx hb dX2_tell_10 (by decide) (fun _ => ?_) (fun c9 => absurd c9 (by decide))
    refine lv_iconst (v := 0) hx hb dX2_tell_15 (by decide) ?_
    refine lv_istore_n (lv' := [(3, .int 0), (0, .ref h0), (1, .ref x0), (2, .ref y0)]) hx hb dX2_tell_16 rfl hl (by decide) rfl (fun ls hl => ?_)
    have loop_17 : ∀ (n : Nat) (i3 : Int32)   (fl : Nat → va_E) (H : Heap) (locs : List Loc) (ls : Array Slot), (0 ≤ i3.toInt ∧ i3.toInt ≤ 24) → (24 - i3.toInt).toNat < n → ((TF K L ow y0 h0 f fl ∧ FS fl h0 lf) ∧ LSt fl y0 (lall (tls (-1) (g_cn f) (g_vl f) (g_lk f) (g_rw f) lf) (Int32.toNatClampNeg i3)) ∧ i3.toInt ≤ (lf.length : Int)) → PI kT kI kJ K L fl → va_P (dC, dI) vwCl (va_pl L fl) H → va_D A (va_pl L fl) → va_S A s.heap H locs → lv_has ls 4 [(3, .int i3), (0, .ref h0), (1, .ref x0), (2, .ref y0)] → W p l e (headSpec wsX2_tell ({ frames := 4, cells := 0, slots := 0, locals := 98 } : Room)).room s m (([.ref h0, .ref x0, .ref y0] : List Value).toArray) below meth c H locs 0 0 Q0 (F0 m 17 ls []) := by
      intro n
      induction n with
      | zero => intro i3 fl H locs ls  _ h9; exact absurd h9 (Nat.not_lt_zero _)
      | succ n ih_17 =>
        intro i3 fl H locs ls  hI hM hFN hPI hP hD hS hl
        obtain ⟨⟨hTF, hFS⟩, hLS, hi3⟩ := hFN
        have hOW := hTF.own hy0 hOW0
        obtain ⟨q1_8, pc_8, c1_8, c2_8, c3_8, q5_8, fc_8, q7_8, mc_8, e_8, fq1_8, fc1_8, fc2_8, fc3_8, fq5_8, ffc_8, fq7_8, fmc_8⟩ := hPI.a2 hh0
        obtain ⟨k_8, hk_8⟩ := va_plg hh0.1 e_8
        obtain ⟨g_9, e_9, fg_9⟩ := hPI.a6 fq5_8
        obtain ⟨k_9, hk_9⟩ := va_plg fq5_8.1 e_9
        have hFu_10 := FS.un hFS e_8 e_9
        have nn_hFu_10 := fs_nn hFu_10
        have hfl := hFu_10.1
        refine lv_iload_n hx hb dX2_tell_17 rfl (lv_at hl 0 rfl) ?_
        refine lv_aload_n hx hb dX2_tell_18 rfl (lv_at hl 1 rfl) ?_
        obtain ⟨k_11, hk_11⟩ := va_plg hh0.1 e_8
        refine va_get (D := (dC, dI)) (ci := 2) (v := .int fc_8) (C := RX2) (T := TX2) (N := 9) hx hb hts iX2_ hown hK hP k_11 hk_11 rfl 6 (by decide) (hts (.fieldLink RX2 188 "FieldLeaves" "foundCount" "I") (by decide +kernel)) (fun _ h9 => h9) rfl dX2_tell_19 ?_
        refine lv_icmp_ge (tgt := 42) hx hb dX2_tell_22 (by decide) (fun c_12 => ?_) (fun c_12 => ?_)
        · have c_12 := Int32.le_iff_toInt_le.mp c_12
          refine lv_iconst (v := 1) hx hb dX2_tell_42 (by decide) ?_
          subst eQ
          exact W.zret (v := 1) hx hb hr rfl (fun t ht hW => ⟨⟨1, (), rfl, Or.inl ⟨rfl, by rw [tlS_some hlf (by rw [show lf.length = Int32.toNatClampNeg i3 from (by have h8 := clamp_int (i := i3) (by omega); omega)]; exact LSt.le hLS hPI hy0)]; rfl⟩, fl, hPI, ⟨hTF, fun ls h9 => by rw [tlS_some hlf (by rw [show lf.length = Int32.toNatClampNeg i3 from (by have h8 := clamp_int (i := i3) (by omega); omega)]; exact LSt.le hLS hPI hy0)] at h9; cases h9; rw [show lf.length = Int32.toNatClampNeg i3 from (by have h8 := clamp_int (i := i3) (by omega); omega)]; exact hLS⟩, by rw [ht]; exact hP, hD⟩, hS.F ht⟩) hS.2.2 dX2_tell_43
        · have c_12 := mt Int32.le_iff_toInt_le.mpr c_12
          refine lv_aload_n hx hb dX2_tell_25 rfl (lv_at hl 1 rfl) ?_
          refine lv_iload_n hx hb dX2_tell_26 rfl (lv_at hl 0 rfl) ?_
          refine lv_aload_n hx hb dX2_tell_27 rfl (lv_at hl 3 rfl) ?_
          have hat := getD_at (lf := lf) (i := i3) (by omega) (by omega)
          have hT := hall _ (List.mem_of_getElem? hat)
          obtain ⟨hvc, hvv, hvl, hvr⟩ := hTF.th hPI0 hy0 hT
          have hPIl := hPI
          have hFSo := hFS
          have hFc := pl_free hD hS hA
          obtain ⟨k_13, hk_13⟩ := va_plg hh0.1 e_8
          refine va_calli (va_runV (b := h0) (As := [.int i3, .ref y0]) (rest := []) ⟨hx, hb, hml, hown, hts⟩ (u_X2_tellObject l dC dI TT H.size kT kI kJ K L fl hPI h0 hh0 i3 y0 hy0 ow hOW _ hLS lf hFS (lf.getD (Int32.toNatClampNeg i3) 0) hat (by constructor <;> omega)) (cwV 2 hts gX2_tell_X2_tellObject rfl rfl rfl (by decide +kernel) ⟨Nat.le_of_ble_eq_true rfl, Nat.le_of_ble_eq_true rfl⟩) ⟨pr_blind, va_recv hK hP (ci := 2) rfl hk_13, (pr_S (ws := va_pl L fl) (wA := va_pl L fl) (tys := [(kT, .object RX1), (kI, .int), (kJ, .long)]) hP hK (hD.weaken (fun _ _ _ _ => trivial)) hst hS hFc).2⟩ rfl rfl hl.1 rfl (lv_room (Nat.le_of_ble_eq_true rfl)) dX2_tell_28 ⟨Nat.le_of_ble_eq_true rfl, Nat.le_of_ble_eq_true rfl⟩) hS (fun q _ h => hFc q h) hFc (fun r_14 u t H1 locs ht hvm hw hB hz1 hk1 hS => ?_)
          obtain ⟨f_15, hPI, hrel, hP, hD9⟩ := hB
          rw [ht] at hP
          have hD := hD9.weaken (fun _ q _ h => hFc q.1 h)
          generalize H1 = H at hP hS ⊢
          obtain ⟨hTL1, hLS1⟩ := hrel
          have hTF := hTF.tr (TF.ofTL hh0 hy0 hTL1)
          have hFS := hTL1.fs hPIl hy0 hh0 hFSo
          rw [hvc, hvv, hvl, hvr, ← tls_at (C := g_cn f) (V := g_vl f) (N := g_lk f) (R := g_rw f) (by omega)] at hLS1 hw
          rcases hw with ⟨rfl, hp_16⟩ | ⟨rfl, hp_16⟩
          · have hLS := hLS1 hp_16
            refine lv_if_ne (tgt := 36) hx hb dX2_tell_31 (by decide) (fun _ => ?_) (fun c9 => absurd c9 (by decide))
            obtain ⟨i_17, ei_17⟩ : ∃ y : Int32, y = i3 + 1 := ⟨_, rfl⟩
            refine lv_iinc (v := i_17) (lv' := [(3, .int i_17), (0, .ref h0), (1, .ref x0), (2, .ref y0)]) hx hb dX2_tell_36 hl (k := 0) rfl (by rw [ei_17]; rfl) (by decide) rfl (fun ls hl => ?_)
            have ki_17 := inc_toInt ei_17 (by omega)
            refine lv_goto (tgt := 17) hx hb dX2_tell_39 (by decide) ?_
            exact ih_17 i_17 f_15 _ _ _  (by omega) (by omega) ⟨⟨hTF, hFS⟩, by rw [lall_step (i := i3) (i2 := i_17) (by omega) ki_17]; exact hLS, by omega⟩ hPI hP hD hS (lv_sub hl [0, 1, 2, 3] rfl)
          · have hov : 300 < (lall (tls (-1) (g_cn f) (g_vl f) (g_lk f) (g_rw f) lf) lf.length).length := by refine Nat.lt_of_lt_of_le (Nat.lt_of_not_le hp_16) (lall_mono (i := Int32.toNatClampNeg i3 + 1) (by have h8 := clamp_int (i := i3) (by omega); omega))
            refine lv_if_ne (tgt := 36) hx hb dX2_tell_31 (by decide) (fun c9 => absurd c9 (by decide)) (fun _ => ?_)
            refine lv_iconst (v := 0) hx hb dX2_tell_34 (by decide) ?_
            subst eQ
            exact W.zret (v := 0) hx hb hr rfl (fun t ht hW => ⟨⟨0, (), rfl, Or.inr ⟨rfl, by rw [tlS_none2 hlf hov]; exact fun h9 => by cases h9⟩, f_15, hPI, ⟨hTF, fun ls h9 => by rw [tlS_none2 hlf hov] at h9; cases h9⟩, by rw [ht]; exact hP, hD⟩, hS.F ht⟩) hS.2.2 dX2_tell_35
    exact loop_17 25 0 f_6 _ _ _  (by omega) (by omega) ⟨⟨hTF, hFS⟩, by rw [cl_0]; exact hLS, by omega⟩ hPI hP hD hS hl
  · refine lv_if_ne (tgt := 15) hx hb dX2_tell_10 (by decide) (fun c9 => absurd c9 (by decide)) (fun _ => ?_)
    refine lv_iconst (v := 0) hx hb dX2_tell_13 (by decide) ?_
    subst eQ
    exact W.zret (v := 0) hx hb hr rfl (fun t ht hW => ⟨⟨0, (), rfl, Or.inr ⟨rfl, by rw [tlS_none1 hp_7]; exact fun h9 => by cases h9⟩, f_6, hPI, ⟨hTF, fun ls h9 => by rw [tlS_none1 hp_7] at h9; cases h9⟩, by rw [ht]; exact hP, hD⟩, hS.F ht⟩) hS.2.2 dX2_tell_14

