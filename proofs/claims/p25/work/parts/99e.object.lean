set_option maxRecDepth 20000 in
theorem in_u_X2_tellObject_X1 : ∀ w ∈ u_ws RX1 TX1 6, w ∈ wsX2_tellObject := by decide +kernel
set_option maxRecDepth 20000 in
theorem in_u_X2_tellObject_X2 : ∀ w ∈ u_ws RX2 TX2 9, w ∈ wsX2_tellObject := by decide +kernel
set_option maxRecDepth 100000 in
set_option maxHeartbeats 4000000 in
theorem u_X2_tellObject (l : Launch) (dC : Nat → ClassId) (dI : Nat → Nat → Nat) (TT : Nat × Nat × Nat) (sz : Nat) (kT kI kJ : ClassId) (K : Nat → Nat) (L : List Nat) (f : Nat → va_E) (hPI : PI kT kI kJ K L f) (h0 : Nat) (hh0 : isr K L 2 h0) (n0 : Int32) (y0 : Nat) (hy0 : isr K L 0 y0) (ow : Nat → Nat) (hOW0 : OWN K L f ow) (ll : List (Int32 × Int32 × Int64)) (hLS0 : LSt f y0 ll) (l0 : List Nat) (hFS : FS f h0 l0) (t0 : Nat) (ht0 : l0[Int32.toNatClampNeg n0]? = some t0) (hn0 : 0 ≤ n0.toInt ∧ n0.toInt < (l0.length : Int)) : Met l yX2_tellObject wsX2_tellObject ({ frames := 3, cells := 0, slots := 0, locals := 73 } : Room) (va_Pc [.ref h0, .int n0, .ref y0] (pr dC dI (va_pl L f) (va_pl L f) [(kT, .object RX1), (kI, .int), (kJ, .long)] sz TT)) (va_Qi (fun (r : Int32) (u : Unit) => bo r ((ll ++ lob (g_cn f t0) (lff (nbr (-1) l0) (g_vl f t0) (g_lk f t0) (g_rw f t0) n0) n0).length ≤ 300)) (fun (_ : Unit) t => ∃ f2 : Nat → va_E, PI kT kI kJ K L f2 ∧ (TL K L ow y0 f f2 ∧ ((ll ++ lob (g_cn f t0) (lff (nbr (-1) l0) (g_vl f t0) (g_lk f t0) (g_rw f t0) n0) n0).length ≤ 300 → LSt f2 y0 (ll ++ lob (g_cn f t0) (lff (nbr (-1) l0) (g_vl f t0) (g_lk f t0) (g_rw f t0) n0) n0))) ∧ va_P (dC, dI) vwCl (va_pl L f2) t.heap ∧ va_D (va_A (va_pl L f) sz) (va_pl L f2)) (va_A (va_pl L f) sz)) 0 0 (va_A (va_pl L f) sz) := by
  refine Met.ofW (cc := cX2_tellObject) (maxL := 6) (ret := (some .boolean)) (by decide) rfl ?_
  intro p e s m args below meth c s₁ B hml hv
  obtain ⟨rfl, hsz, hP, hK, hD0, hst⟩ := hv
  have hx := B.exec
  have hb := B.bytes
  have hr := B.returns
  have hts := atoms_spec (ws := wsX2_tellObject) B.pre
  have hown : s.vm.findClass RX2 = some m.cls := findClass_of_methodNamed B.named
  have hlocks := B.notSynchronized
  have iX1_ := in_u_X2_tellObject_X1
  have iX2_ := in_u_X2_tellObject_X2
  subst hsz
  have hD := hD0.self (sz := s.heap.size)
  generalize hAe : va_A (va_pl L f) s.heap.size = A at hD hst ⊢
  have hA : ∀ q : Nat, s.heap.size ≤ q → A q := fun q h => by rw [← hAe]; exact Or.inr h
  have hS : va_S A s.heap s.heap [] := va_S.rf
  have hl := lv_entry ([.ref h0, .int n0, .ref y0]) (n := 6) (Nat.le_of_ble_eq_true rfl)
  rw [lg_entry_eq]
  generalize (lg_sl ([.ref h0, .int n0, .ref y0]) ++ List.replicate (6 - (lg_sl ([.ref h0, .int n0, .ref y0])).length) Slot.unset).toArray = ls at hl ⊢
  have hl : lv_has ls 6 [(0, .ref h0), (1, .int n0), (2, .ref y0)] := hl
  have km1_ : Int32.toInt (-1) = -1 := by decide
  have k0_ : Int32.toInt 0 = 0 := by decide
  have k1_ : Int32.toInt 1 = 1 := by decide
  have k17_ : Int32.toInt 17 = 17 := by decide
  refine W_nameQ (fun Q0 eQ => ?_)
  have hPI0 := hPI
  have hOW := hOW0
  have hLS := hLS0
  have hTL : TL K L ow y0 f f := TL.rf
  obtain ⟨q1_1, pc_1, c1_1, c2_1, c3_1, q5_1, fc_1, q7_1, mc_1, e_1, fq1_1, fc1_1, fc2_1, fc3_1, fq5_1, ffc_1, fq7_1, fmc_1⟩ := hPI.a2 hh0
  obtain ⟨k_1, hk_1⟩ := va_plg hh0.1 e_1
  obtain ⟨g_2, e_2, fg_2⟩ := hPI.a6 fq5_1
  obtain ⟨k_2, hk_2⟩ := va_plg fq5_1.1 e_2
  have hFu_3 := FS.un hFS e_1 e_2
  have nn_hFu_3 := fs_nn hFu_3
  have hfl := hFu_3.1
  refine lv_aload_n hx hb dX2_tellObject_0 rfl (lv_at hl 0 rfl) ?_
  obtain ⟨k_4, hk_4⟩ := va_plg hh0.1 e_1
  refine va_get (D := (dC, dI)) (ci := 2) (v := .ref q5_1) (C := RX2) (T := TX2) (N := 9) hx hb hts iX2_ hown hK hP k_4 hk_4 rfl 5 (by decide) (hts (.fieldLink RX2 28 "FieldLeaves" "found" "[LFieldLeaves$Thing;") (by decide +kernel)) (fun _ h9 => h9) rfl dX2_tellObject_1 ?_
  refine lv_iload_n hx hb dX2_tellObject_4 rfl (lv_at hl 1 rfl) ?_
  obtain ⟨k_5, hk_5⟩ := va_plg fq5_1.1 e_2
  have h_5 : vp_in n0 24 := (vp_in_iff.mpr (by constructor <;> omega))
  refine va_aldq hx hb hK hP k_5 0 hk_5 rfl h_5 dX2_tellObject_5 ?_
  have fo_5 := fg_2 _ (vp_lt h_5)
  have nn_5 := nn_hFu_3 (Int32.toNatClampNeg n0) (by rw [clamp_int (by omega)]; omega)
  generalize eo_5 : g_2 (Int32.toNatClampNeg n0) = o_5 at fo_5 nn_5 ⊢
  rcases o_5 with _ | y_6
  · exact absurd rfl nn_5
  · have fy_6 := fo_5 y_6 rfl
    obtain rfl : y_6 = t0 := Option.some.inj (eo_5.symm.trans (hFu_3.2 _ _ ht0))
    refine W.eq (g2 := F0 m 6 ls [.ref y_6]) rfl ?_
    refine lv_astore_n (lv' := [(3, .ref y_6), (0, .ref h0), (1, .int n0), (2, .ref y0)]) hx hb dX2_tellObject_6 rfl hl (by decide) rfl (fun ls hl => ?_)
    refine lv_aload_n hx hb dX2_tellObject_7 rfl (lv_at hl 3 rfl) ?_
    refine lv_iload_n hx hb dX2_tellObject_8 rfl (lv_at hl 2 rfl) ?_
    refine lv_iconst (v := (-1)) hx hb dX2_tellObject_9 (by decide) ?_
    refine lv_aload_n hx hb dX2_tellObject_10 rfl (lv_at hl 0 rfl) ?_
    obtain ⟨cn_7, v_7, b_7, m_7, st_7, i_7, e_7, fv_7, fb_7, fm_7, fst_7, fi_7⟩ := hPI.a1 fy_6
    obtain ⟨k_7, hk_7⟩ := va_plg fy_6.1 e_7
    refine va_get (D := (dC, dI)) (ci := 1) (v := .int cn_7) (C := RX1) (T := TX1) (N := 6) hx hb hts iX1_ hown hK hP k_7 hk_7 rfl 0 (by decide) (hts (.fieldLink RX2 45 "FieldLeaves$Thing" "classNumber" "I") (by decide +kernel)) (fun _ h9 => h9) rfl dX2_tellObject_11 ?_
    refine lv_i2l (v := Int32.toInt64 cn_7) hx hb dX2_tellObject_14 rfl ?_
    have k_z_8 := Int32.toInt_toInt64 cn_7
    have hPIo := hPI
    have hFc := pl_free hD hS hA
    obtain ⟨n_9, d_9, v_9, z_9, e_9, fn_9, fd_9, fv_9, fz_9⟩ := hPI.a0 hy0
    obtain ⟨k_9, hk_9⟩ := va_plg hy0.1 e_9
    refine va_calli (va_runV (b := y0) (As := [.int n0, .int (-1), .long (Int32.toInt64 cn_7)]) (rest := []) ⟨hx, hb, hml, hown, hts⟩ (u_X0_add l dC dI TT s.heap.size kT kI kJ K L f hPI y0 hy0 n0 (-1) (Int32.toInt64 cn_7)) (cwV 3 hts gX2_tellObject_X0_add rfl rfl rfl (by decide +kernel) ⟨Nat.le_of_ble_eq_true rfl, Nat.le_of_ble_eq_true rfl⟩) ⟨pr_blind, va_recv hK hP (ci := 0) rfl hk_9, (pr_S (ws := va_pl L f) (wA := va_pl L f) (tys := [(kT, .object RX1), (kI, .int), (kJ, .long)]) hP hK (hD.weaken (fun _ _ _ _ => trivial)) hst hS hFc).2⟩ rfl rfl hl.1 rfl (lv_room (Nat.le_of_ble_eq_true rfl)) dX2_tellObject_15 ⟨Nat.le_of_ble_eq_true rfl, Nat.le_of_ble_eq_true rfl⟩) hS (fun q _ h => hFc q h) hFc (fun r_10 u t H1 locs ht hvm hw hB hz1 hk1 hS => ?_)
    obtain ⟨f_11, hPI, hrel, hP, hD9⟩ := hB
    rw [ht] at hP
    have hD := hD9.weaken (fun _ q _ h => hFc q.1 h)
    have hr_f_11 := hrel
    generalize H1 = H at hP hS ⊢
    obtain ⟨⟨hTL1, hOW⟩, hd_12⟩ := add_told hPIo hOW hy0 hLS hw hrel
    have hTL := hTL.tr hTL1
    have eq_13 := (hTL1.at hy0 hh0 (by decide)).trans e_1
    have eq_14 := (hTL1.at hy0 fy_6 (by decide)).trans e_7
    have eq_15 := (hTL1.at hy0 fq5_1 (by decide)).trans e_2
    rcases hd_12 with ⟨rfl, hLS, hle⟩ | ⟨rfl, hov⟩
    · refine lv_istore (lv' := [(4, .int 1), (3, .ref y_6), (0, .ref h0), (1, .int n0), (2, .ref y0)]) hx hb dX2_tellObject_18 hl (by decide) rfl (fun ls hl => ?_)
      refine lv_iconst (v := 0) hx hb dX2_tellObject_20 (by decide) ?_
      refine lv_istore (lv' := [(5, .int 0), (4, .int 1), (3, .ref y_6), (0, .ref h0), (1, .int n0), (2, .ref y0)]) hx hb dX2_tellObject_21 hl (by decide) rfl (fun ls hl => ?_)
      have loop_23 : ∀ (n : Nat) (i5 : Int32) (b4 : Int32)  (fl : Nat → va_E) (H : Heap) (locs : List Loc) (ls : Array Slot), r01 b4 → (0 ≤ i5.toInt ∧ i5.toInt ≤ 17) → (17 - i5.toInt).toNat < n → (TL K L ow y0 f fl ∧ ((b4 = 1 ∧ LSt fl y0 (ll ++ (n0, -1, (g_cn f y_6).toInt64) :: lfs (lff (nbr (-1) l0) (g_vl f y_6) (g_lk f y_6) (g_rw f y_6) n0) (Int32.toNatClampNeg i5))) ∨ (b4 = 0 ∧ 300 < (ll ++ lob (g_cn f y_6) (lff (nbr (-1) l0) (g_vl f y_6) (g_lk f y_6) (g_rw f y_6) n0) n0).length))) → PI kT kI kJ K L fl → va_P (dC, dI) vwCl (va_pl L fl) H → va_D A (va_pl L fl) → va_S A s.heap H locs → lv_has ls 6 [(5, .int i5), (4, .int b4), (3, .ref y_6), (0, .ref h0), (1, .int n0), (2, .ref y0)] → W p l e (headSpec wsX2_tellObject ({ frames := 3, cells := 0, slots := 0, locals := 73 } : Room)).room s m (([.ref h0, .int n0, .ref y0] : List Value).toArray) below meth c H locs 0 0 Q0 (F0 m 23 ls []) := by
        intro n
        induction n with
        | zero => intro i5 b4 fl H locs ls _ _ h9; exact absurd h9 (Nat.not_lt_zero _)
        | succ n ih_23 =>
          intro i5 b4 fl H locs ls fb4 hI hM hFN hPI hP hD hS hl
          obtain ⟨hTL, hDJ⟩ := hFN
          have hOW := hTL.own hy0 hOW0
          have hFSl := hTL.fs hPI0 hy0 hh0 hFS
          obtain ⟨hvc, hvv, hvl, hvr⟩ := hTL.th hPI0 hy0 fy_6
          rcases fb4 with rfl | rfl
          · have hl : lv_has ls 6 [(5, .int i5), (4, .int 1), (3, .ref y_6), (0, .ref h0), (1, .int n0), (2, .ref y0)] := hl
            refine lv_iload hx hb dX2_tellObject_23 (lv_at hl 0 rfl) ?_
            refine lv_bipush (v := 17) hx hb dX2_tellObject_25 (by decide) ?_
            refine lv_icmp_ge (tgt := 51) hx hb dX2_tellObject_27 (by decide) (fun c_16 => ?_) (fun c_16 => ?_)
            · have c_16 := Int32.le_iff_toInt_le.mp c_16
              refine lv_iload hx hb dX2_tellObject_51 (lv_at hl 1 rfl) ?_
              subst eQ
              exact W.zret (v := 1) hx hb hr rfl (fun t ht hW => ⟨⟨1, (), rfl, Or.inl ⟨rfl, by rw [← lob_fin (i := i5) (by omega) (by omega)]; exact LSt.le ((hDJ.resolve_right (fun h9 => absurd h9.1 (by decide))).2) hPI hy0⟩, fl, hPI, ⟨hTL, fun _ => by rw [← lob_fin (i := i5) (by omega) (by omega)]; exact ((hDJ.resolve_right (fun h9 => absurd h9.1 (by decide))).2)⟩, by rw [ht]; exact hP, hD⟩, hS.F ht⟩) hS.2.2 dX2_tellObject_53
            · have c_16 := mt Int32.le_iff_toInt_le.mpr c_16
              refine lv_iload hx hb dX2_tellObject_30 (lv_at hl 1 rfl) ?_
              refine lv_if_eq (tgt := 51) hx hb dX2_tellObject_32 (by decide) (fun c9 => absurd c9 (by decide)) (fun _ => ?_)
              refine lv_aload_n hx hb dX2_tellObject_35 rfl (lv_at hl 3 rfl) ?_
              refine lv_iload_n hx hb dX2_tellObject_36 rfl (lv_at hl 4 rfl) ?_
              refine lv_iload hx hb dX2_tellObject_37 (lv_at hl 0 rfl) ?_
              refine lv_aload_n hx hb dX2_tellObject_39 rfl (lv_at hl 5 rfl) ?_
              have hLS := ((hDJ.resolve_right (fun h9 => absurd h9.1 (by decide))).2)
              have hFc := pl_free hD hS hA
              obtain ⟨q1_17, pc_17, c1_17, c2_17, c3_17, q5_17, fc_17, q7_17, mc_17, e_17, fq1_17, fc1_17, fc2_17, fc3_17, fq5_17, ffc_17, fq7_17, fmc_17⟩ := hPI.a2 hh0
              obtain ⟨k_17, hk_17⟩ := va_plg hh0.1 e_17
              refine va_calli (va_runV (b := h0) (As := [.int n0, .int i5, .ref y0]) (rest := []) ⟨hx, hb, hml, hown, hts⟩ (u_X2_tellField l dC dI TT H.size kT kI kJ K L fl hPI h0 hh0 n0 i5 y0 hy0 ow hOW _ hLS l0 hFSl y_6 ht0 hn0 (by constructor <;> omega)) (cwV 3 hts gX2_tellObject_X2_tellField rfl rfl rfl (by decide +kernel) ⟨Nat.le_of_ble_eq_true rfl, Nat.le_of_ble_eq_true rfl⟩) ⟨pr_blind, va_recv hK hP (ci := 2) rfl hk_17, (pr_S (ws := va_pl L fl) (wA := va_pl L fl) (tys := [(kT, .object RX1), (kI, .int), (kJ, .long)]) hP hK (hD.weaken (fun _ _ _ _ => trivial)) hst hS hFc).2⟩ rfl rfl hl.1 rfl (lv_room (Nat.le_of_ble_eq_true rfl)) dX2_tellObject_40 ⟨Nat.le_of_ble_eq_true rfl, Nat.le_of_ble_eq_true rfl⟩) hS (fun q _ h => hFc q h) hFc (fun r_18 u t H1 locs ht hvm hw hB hz1 hk1 hS => ?_)
              obtain ⟨f_19, hPI, hrel, hP, hD9⟩ := hB
              rw [ht] at hP
              have hD := hD9.weaken (fun _ q _ h => hFc q.1 h)
              generalize H1 = H at hP hS ⊢
              obtain ⟨hTL1, hLS1⟩ := hrel
              have hTL := hTL.tr hTL1
              rw [hvv, hvl, hvr] at hLS1 hw
              rcases hw with ⟨rfl, hp_20⟩ | ⟨rfl, hp_20⟩
              · have hLS := hLS1 hp_20
                refine lv_istore (lv' := [(4, .int 1), (5, .int i5), (3, .ref y_6), (0, .ref h0), (1, .int n0), (2, .ref y0)]) hx hb dX2_tellObject_43 hl (by decide) rfl (fun ls hl => ?_)
                obtain ⟨i_21, ei_21⟩ : ∃ y : Int32, y = i5 + 1 := ⟨_, rfl⟩
                refine lv_iinc (v := i_21) (lv' := [(5, .int i_21), (4, .int 1), (3, .ref y_6), (0, .ref h0), (1, .int n0), (2, .ref y0)]) hx hb dX2_tellObject_45 hl (k := 1) rfl (by rw [ei_21]; rfl) (by decide) rfl (fun ls hl => ?_)
                have ki_21 := inc_toInt ei_21 (by omega)
                refine lv_goto (tgt := 23) hx hb dX2_tellObject_48 (by decide) ?_
                exact ih_23 i_21 1 f_19 _ _ _ (Or.inl rfl) (by omega) (by omega) ⟨hTL, Or.inl ⟨rfl, by rw [lfs_step (i := i5) (i2 := i_21) (by omega) ki_21]; exact hLS⟩⟩ hPI hP hD hS (lv_sub hl [0, 1, 2, 3, 4, 5] rfl)
              · have hov := Nat.lt_of_not_le hp_20
                refine lv_istore (lv' := [(4, .int 0), (5, .int i5), (3, .ref y_6), (0, .ref h0), (1, .int n0), (2, .ref y0)]) hx hb dX2_tellObject_43 hl (by decide) rfl (fun ls hl => ?_)
                obtain ⟨i_22, ei_22⟩ : ∃ y : Int32, y = i5 + 1 := ⟨_, rfl⟩
                refine lv_iinc (v := i_22) (lv' := [(5, .int i_22), (4, .int 0), (3, .ref y_6), (0, .ref h0), (1, .int n0), (2, .ref y0)]) hx hb dX2_tellObject_45 hl (k := 1) rfl (by rw [ei_22]; rfl) (by decide) rfl (fun ls hl => ?_)
                have ki_22 := inc_toInt ei_22 (by omega)
                refine lv_goto (tgt := 23) hx hb dX2_tellObject_48 (by decide) ?_
                exact ih_23 i_22 0 f_19 _ _ _ (Or.inr rfl) (by omega) (by omega) ⟨hTL, Or.inr ⟨rfl, Nat.lt_of_lt_of_le hov (lob_le (by omega) (by omega))⟩⟩ hPI hP hD hS (lv_sub hl [0, 1, 2, 3, 4, 5] rfl)
          · have hl : lv_has ls 6 [(5, .int i5), (4, .int 0), (3, .ref y_6), (0, .ref h0), (1, .int n0), (2, .ref y0)] := hl
            refine lv_iload hx hb dX2_tellObject_23 (lv_at hl 0 rfl) ?_
            refine lv_bipush (v := 17) hx hb dX2_tellObject_25 (by decide) ?_
            refine lv_icmp_ge (tgt := 51) hx hb dX2_tellObject_27 (by decide) (fun c_23 => ?_) (fun c_23 => ?_)
            · have c_23 := Int32.le_iff_toInt_le.mp c_23
              refine lv_iload hx hb dX2_tellObject_51 (lv_at hl 1 rfl) ?_
              subst eQ
              exact W.zret (v := 0) hx hb hr rfl (fun t ht hW => ⟨⟨0, (), rfl, Or.inr ⟨rfl, by have h8 := ((hDJ.resolve_left (fun h9 => absurd h9.1 (by decide))).2); omega⟩, fl, hPI, ⟨hTL, fun h9 => by have h8 := ((hDJ.resolve_left (fun h9 => absurd h9.1 (by decide))).2); omega⟩, by rw [ht]; exact hP, hD⟩, hS.F ht⟩) hS.2.2 dX2_tellObject_53
            · have c_23 := mt Int32.le_iff_toInt_le.mpr c_23
              refine lv_iload hx hb dX2_tellObject_30 (lv_at hl 1 rfl) ?_
              refine lv_if_eq (tgt := 51) hx hb dX2_tellObject_32 (by decide) (fun _ => ?_) (fun c9 => absurd c9 (by decide))
              refine lv_iload hx hb dX2_tellObject_51 (lv_at hl 1 rfl) ?_
              subst eQ
              exact W.zret (v := 0) hx hb hr rfl (fun t ht hW => ⟨⟨0, (), rfl, Or.inr ⟨rfl, by have h8 := ((hDJ.resolve_left (fun h9 => absurd h9.1 (by decide))).2); omega⟩, fl, hPI, ⟨hTL, fun h9 => by have h8 := ((hDJ.resolve_left (fun h9 => absurd h9.1 (by decide))).2); omega⟩, by rw [ht]; exact hP, hD⟩, hS.F ht⟩) hS.2.2 dX2_tellObject_53
      exact loop_23 18 0 1 f_11 _ _ _ (Or.inl rfl) (by omega) (by omega) ⟨hTL, Or.inl ⟨rfl, by rw [cl_0, th_cn e_7]; exact hLS⟩⟩ hPI hP hD hS hl
    · refine lv_istore (lv' := [(4, .int 0), (3, .ref y_6), (0, .ref h0), (1, .int n0), (2, .ref y0)]) hx hb dX2_tellObject_18 hl (by decide) rfl (fun ls hl => ?_)
      refine lv_iconst (v := 0) hx hb dX2_tellObject_20 (by decide) ?_
      refine lv_istore (lv' := [(5, .int 0), (4, .int 0), (3, .ref y_6), (0, .ref h0), (1, .int n0), (2, .ref y0)]) hx hb dX2_tellObject_21 hl (by decide) rfl (fun ls hl => ?_)
      have loop_23 : ∀ (n : Nat) (i5 : Int32) (b4 : Int32)  (fl : Nat → va_E) (H : Heap) (locs : List Loc) (ls : Array Slot), r01 b4 → (0 ≤ i5.toInt ∧ i5.toInt ≤ 17) → (17 - i5.toInt).toNat < n → (TL K L ow y0 f fl ∧ ((b4 = 1 ∧ LSt fl y0 (ll ++ (n0, -1, (g_cn f y_6).toInt64) :: lfs (lff (nbr (-1) l0) (g_vl f y_6) (g_lk f y_6) (g_rw f y_6) n0) (Int32.toNatClampNeg i5))) ∨ (b4 = 0 ∧ 300 < (ll ++ lob (g_cn f y_6) (lff (nbr (-1) l0) (g_vl f y_6) (g_lk f y_6) (g_rw f y_6) n0) n0).length))) → PI kT kI kJ K L fl → va_P (dC, dI) vwCl (va_pl L fl) H → va_D A (va_pl L fl) → va_S A s.heap H locs → lv_has ls 6 [(5, .int i5), (4, .int b4), (3, .ref y_6), (0, .ref h0), (1, .int n0), (2, .ref y0)] → W p l e (headSpec wsX2_tellObject ({ frames := 3, cells := 0, slots := 0, locals := 73 } : Room)).room s m (([.ref h0, .int n0, .ref y0] : List Value).toArray) below meth c H locs 0 0 Q0 (F0 m 23 ls []) := by
        intro n
        induction n with
        | zero => intro i5 b4 fl H locs ls _ _ h9; exact absurd h9 (Nat.not_lt_zero _)
        | succ n ih_23 =>
          intro i5 b4 fl H locs ls fb4 hI hM hFN hPI hP hD hS hl
          obtain ⟨hTL, hDJ⟩ := hFN
          have hOW := hTL.own hy0 hOW0
          have hFSl := hTL.fs hPI0 hy0 hh0 hFS
          obtain ⟨hvc, hvv, hvl, hvr⟩ := hTL.th hPI0 hy0 fy_6
          rcases fb4 with rfl | rfl
          · have hl : lv_has ls 6 [(5, .int i5), (4, .int 1), (3, .ref y_6), (0, .ref h0), (1, .int n0), (2, .ref y0)] := hl
            refine lv_iload hx hb dX2_tellObject_23 (lv_at hl 0 rfl) ?_
            refine lv_bipush (v := 17) hx hb dX2_tellObject_25 (by decide) ?_
            refine lv_icmp_ge (tgt := 51) hx hb dX2_tellObject_27 (by decide) (fun c_24 => ?_) (fun c_24 => ?_)
            · have c_24 := Int32.le_iff_toInt_le.mp c_24
              refine lv_iload hx hb dX2_tellObject_51 (lv_at hl 1 rfl) ?_
              subst eQ
              exact W.zret (v := 1) hx hb hr rfl (fun t ht hW => ⟨⟨1, (), rfl, Or.inl ⟨rfl, by rw [← lob_fin (i := i5) (by omega) (by omega)]; exact LSt.le ((hDJ.resolve_right (fun h9 => absurd h9.1 (by decide))).2) hPI hy0⟩, fl, hPI, ⟨hTL, fun _ => by rw [← lob_fin (i := i5) (by omega) (by omega)]; exact ((hDJ.resolve_right (fun h9 => absurd h9.1 (by decide))).2)⟩, by rw [ht]; exact hP, hD⟩, hS.F ht⟩) hS.2.2 dX2_tellObject_53
            · have c_24 := mt Int32.le_iff_toInt_le.mpr c_24
              refine lv_iload hx hb dX2_tellObject_30 (lv_at hl 1 rfl) ?_
              refine lv_if_eq (tgt := 51) hx hb dX2_tellObject_32 (by decide) (fun c9 => absurd c9 (by decide)) (fun _ => ?_)
              refine lv_aload_n hx hb dX2_tellObject_35 rfl (lv_at hl 3 rfl) ?_
              refine lv_iload_n hx hb dX2_tellObject_36 rfl (lv_at hl 4 rfl) ?_
              refine lv_iload hx hb dX2_tellObject_37 (lv_at hl 0 rfl) ?_
              refine lv_aload_n hx hb dX2_tellObject_39 rfl (lv_at hl 5 rfl) ?_
              have hLS := ((hDJ.resolve_right (fun h9 => absurd h9.1 (by decide))).2)
              have hFc := pl_free hD hS hA
              obtain ⟨q1_25, pc_25, c1_25, c2_25, c3_25, q5_25, fc_25, q7_25, mc_25, e_25, fq1_25, fc1_25, fc2_25, fc3_25, fq5_25, ffc_25, fq7_25, fmc_25⟩ := hPI.a2 hh0
              obtain ⟨k_25, hk_25⟩ := va_plg hh0.1 e_25
              refine va_calli (va_runV (b := h0) (As := [.int n0, .int i5, .ref y0]) (rest := []) ⟨hx, hb, hml, hown, hts⟩ (u_X2_tellField l dC dI TT H.size kT kI kJ K L fl hPI h0 hh0 n0 i5 y0 hy0 ow hOW _ hLS l0 hFSl y_6 ht0 hn0 (by constructor <;> omega)) (cwV 3 hts gX2_tellObject_X2_tellField rfl rfl rfl (by decide +kernel) ⟨Nat.le_of_ble_eq_true rfl, Nat.le_of_ble_eq_true rfl⟩) ⟨pr_blind, va_recv hK hP (ci := 2) rfl hk_25, (pr_S (ws := va_pl L fl) (wA := va_pl L fl) (tys := [(kT, .object RX1), (kI, .int), (kJ, .long)]) hP hK (hD.weaken (fun _ _ _ _ => trivial)) hst hS hFc).2⟩ rfl rfl hl.1 rfl (lv_room (Nat.le_of_ble_eq_true rfl)) dX2_tellObject_40 ⟨Nat.le_of_ble_eq_true rfl, Nat.le_of_ble_eq_true rfl⟩) hS (fun q _ h => hFc q h) hFc (fun r_26 u t H1 locs ht hvm hw hB hz1 hk1 hS => ?_)
              obtain ⟨f_27, hPI, hrel, hP, hD9⟩ := hB
              rw [ht] at hP
              have hD := hD9.weaken (fun _ q _ h => hFc q.1 h)
              generalize H1 = H at hP hS ⊢
              obtain ⟨hTL1, hLS1⟩ := hrel
              have hTL := hTL.tr hTL1
              rw [hvv, hvl, hvr] at hLS1 hw
              rcases hw with ⟨rfl, hp_28⟩ | ⟨rfl, hp_28⟩
              · have hLS := hLS1 hp_28
                refine lv_istore (lv' := [(4, .int 1), (5, .int i5), (3, .ref y_6), (0, .ref h0), (1, .int n0), (2, .ref y0)]) hx hb dX2_tellObject_43 hl (by decide) rfl (fun ls hl => ?_)
                obtain ⟨i_29, ei_29⟩ : ∃ y : Int32, y = i5 + 1 := ⟨_, rfl⟩
                refine lv_iinc (v := i_29) (lv' := [(5, .int i_29), (4, .int 1), (3, .ref y_6), (0, .ref h0), (1, .int n0), (2, .ref y0)]) hx hb dX2_tellObject_45 hl (k := 1) rfl (by rw [ei_29]; rfl) (by decide) rfl (fun ls hl => ?_)
                have ki_29 := inc_toInt ei_29 (by omega)
                refine lv_goto (tgt := 23) hx hb dX2_tellObject_48 (by decide) ?_
                exact ih_23 i_29 1 f_27 _ _ _ (Or.inl rfl) (by omega) (by omega) ⟨hTL, Or.inl ⟨rfl, by rw [lfs_step (i := i5) (i2 := i_29) (by omega) ki_29]; exact hLS⟩⟩ hPI hP hD hS (lv_sub hl [0, 1, 2, 3, 4, 5] rfl)
              · have hov := Nat.lt_of_not_le hp_28
                refine lv_istore (lv' := [(4, .int 0), (5, .int i5), (3, .ref y_6), (0, .ref h0), (1, .int n0), (2, .ref y0)]) hx hb dX2_tellObject_43 hl (by decide) rfl (fun ls hl => ?_)
                obtain ⟨i_30, ei_30⟩ : ∃ y : Int32, y = i5 + 1 := ⟨_, rfl⟩
                refine lv_iinc (v := i_30) (lv' := [(5, .int i_30), (4, .int 0), (3, .ref y_6), (0, .ref h0), (1, .int n0), (2, .ref y0)]) hx hb dX2_tellObject_45 hl (k := 1) rfl (by rw [ei_30]; rfl) (by decide) rfl (fun ls hl => ?_)
                have ki_30 := inc_toInt ei_30 (by omega)
                refine lv_goto (tgt := 23) hx hb dX2_tellObject_48 (by decide) ?_
                exact ih_23 i_30 0 f_27 _ _ _ (Or.inr rfl) (by omega) (by omega) ⟨hTL, Or.inr ⟨rfl, Nat.lt_of_lt_of_le hov (lob_le (by omega) (by omega))⟩⟩ hPI hP hD hS (lv_sub hl [0, 1, 2, 3, 4, 5] rfl)
          · have hl : lv_has ls 6 [(5, .int i5), (4, .int 0), (3, .ref y_6), (0, .ref h0), (1, .int n0), (2, .ref y0)] := hl
            refine lv_iload hx hb dX2_tellObject_23 (lv_at hl 0 rfl) ?_
            refine lv_bipush (v := 17) hx hb dX2_tellObject_25 (by decide) ?_
            refine lv_icmp_ge (tgt := 51) hx hb dX2_tellObject_27 (by decide) (fun c_31 => ?_) (fun c_31 => ?_)
            · have c_31 := Int32.le_iff_toInt_le.mp c_31
              refine lv_iload hx hb dX2_tellObject_51 (lv_at hl 1 rfl) ?_
              subst eQ
              exact W.zret (v := 0) hx hb hr rfl (fun t ht hW => ⟨⟨0, (), rfl, Or.inr ⟨rfl, by have h8 := ((hDJ.resolve_left (fun h9 => absurd h9.1 (by decide))).2); omega⟩, fl, hPI, ⟨hTL, fun h9 => by have h8 := ((hDJ.resolve_left (fun h9 => absurd h9.1 (by decide))).2); omega⟩, by rw [ht]; exact hP, hD⟩, hS.F ht⟩) hS.2.2 dX2_tellObject_53
            · have c_31 := mt Int32.le_iff_toInt_le.mpr c_31
              refine lv_iload hx hb dX2_tellObject_30 (lv_at hl 1 rfl) ?_
              refine lv_if_eq (tgt := 51) hx hb dX2_tellObject_32 (by decide) (fun _ => ?_) (fun c9 => absurd c9 (by decide))
              refine lv_iload hx hb dX2_tellObject_51 (lv_at hl 1 rfl) ?_
              subst eQ
              exact W.zret (v := 0) hx hb hr rfl (fun t ht hW => ⟨⟨0, (), rfl, Or.inr ⟨rfl, by have h8 := ((hDJ.resolve_left (fun h9 => absurd h9.1 (by decide))).2); omega⟩, fl, hPI, ⟨hTL, fun h9 => by have h8 := ((hDJ.resolve_left (fun h9 => absurd h9.1 (by decide))).2); omega⟩, by rw [ht]; exact hP, hD⟩, hS.F ht⟩) hS.2.2 dX2_tellObject_53
      exact loop_23 18 0 0 f_11 _ _ _ (Or.inr rfl) (by omega) (by omega) ⟨hTL, Or.inr ⟨rfl, by unfold lob; simp at hov ⊢; omega⟩⟩ hPI hP hD hS hl

