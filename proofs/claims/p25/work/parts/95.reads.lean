set_option maxRecDepth 20000 in
theorem in_u_X2_same_X2 : ∀ w ∈ u_ws RX2 TX2 9, w ∈ wsX2_same := by decide +kernel
set_option maxRecDepth 100000 in
set_option maxHeartbeats 4000000 in
theorem u_X2_same (l : Launch) (dC : Nat → ClassId) (dI : Nat → Nat → Nat) (TT : Nat × Nat × Nat) (sz : Nat) (kT kI kJ : ClassId) (K : Nat → Nat) (L : List Nat) (f : Nat → va_E) (hPI : PI kT kI kJ K L f) (h0 : Nat) (hh0 : isr K L 2 h0) (p0 : Int32) (p1 : Int32) : Met l yX2_same wsX2_same ({ frames := 1, cells := 0, slots := 0, locals := 20 } : Room) (va_Pc [.ref h0, .int p0, .int p1] (pr dC dI (va_pl L f) [] [(kT, .object RX1), (kI, .int), (kJ, .long)] sz TT)) (va_Qi (fun (r : Int32) (u : Unit) => r = ks_same (g_sl f h0) p0 p1) (fun _ _ => True) (va_A [] sz)) 0 0 (va_A [] sz) := by
  refine Met.ofW (cc := cX2_same) (maxL := 3) (ret := (some .int)) (by decide) rfl ?_
  intro p e s m args below meth c s₁ B hml hv
  obtain ⟨rfl, hsz, hP, hK, hD0, hst⟩ := hv
  have hx := B.exec
  have hb := B.bytes
  have hr := B.returns
  have hts := atoms_spec (ws := wsX2_same) B.pre
  have hown : s.vm.findClass RX2 = some m.cls := findClass_of_methodNamed B.named
  have hlocks := B.notSynchronized
  have iX2_ := in_u_X2_same_X2
  subst hsz
  have hD := hD0.self (sz := s.heap.size)
  generalize hAe : va_A [] s.heap.size = A at hD hst ⊢
  have hA : ∀ q : Nat, s.heap.size ≤ q → A q := fun q h => by rw [← hAe]; exact Or.inr h
  have hS : va_S A s.heap s.heap [] := va_S.rf
  have hl := lv_entry ([.ref h0, .int p0, .int p1]) (n := 3) (Nat.le_of_ble_eq_true rfl)
  rw [lg_entry_eq]
  generalize (lg_sl ([.ref h0, .int p0, .int p1]) ++ List.replicate (3 - (lg_sl ([.ref h0, .int p0, .int p1])).length) Slot.unset).toArray = ls at hl ⊢
  have hl : lv_has ls 3 [(0, .ref h0), (1, .int p0), (2, .int p1)] := hl
  have km1_ : Int32.toInt (-1) = -1 := by decide
  have k0_ : Int32.toInt 0 = 0 := by decide
  have k1_ : Int32.toInt 1 = 1 := by decide
  refine lv_iload_n hx hb dX2_same_0 rfl (lv_at hl 1 rfl) ?_
  refine va_calli (va_runS (As := [.int p0]) (rest := []) ⟨hx, hb, hml, hown, hts⟩ (c_X2_isSlot l dC dI TT s.heap.size p0) (va_cwS 1 hts gX2_same_X2_isSlot rfl rfl rfl (by decide +kernel) ⟨Nat.le_of_ble_eq_true rfl, Nat.le_of_ble_eq_true rfl⟩) (pr_S (ws := []) (wA := []) (tys := []) vp_nil (hK.sub [] rfl) vd_nil hst hS (ro_free hS hA)) rfl rfl hl.1 rfl (lv_room (Nat.le_of_ble_eq_true rfl)) dX2_same_1 ⟨Nat.le_of_ble_eq_true rfl, Nat.le_of_ble_eq_true rfl⟩) hS (fun q _ h => (ro_free hS hA) q h) (ro_free hS hA) (fun r_1 u t H1 locs ht hvm hw hB hz1 hk1 hS => ?_)
  have hP := ro_keep hP hk1
  generalize H1 = H at hP hS ⊢
  rcases hw with ⟨rfl, hp_2⟩ | ⟨rfl, hp_2⟩
  · refine lv_if_eq (tgt := 14) hx hb dX2_same_4 (by decide) (fun c9 => absurd c9 (by decide)) (fun _ => ?_)
    refine lv_iload_n hx hb dX2_same_7 rfl (lv_at hl 2 rfl) ?_
    refine va_calli (va_runS (As := [.int p1]) (rest := []) ⟨hx, hb, hml, hown, hts⟩ (c_X2_isSlot l dC dI TT H.size p1) (va_cwS 1 hts gX2_same_X2_isSlot rfl rfl rfl (by decide +kernel) ⟨Nat.le_of_ble_eq_true rfl, Nat.le_of_ble_eq_true rfl⟩) (pr_S (ws := []) (wA := []) (tys := []) vp_nil (hK.sub [] rfl) vd_nil hst hS (ro_free hS hA)) rfl rfl hl.1 rfl (lv_room (Nat.le_of_ble_eq_true rfl)) dX2_same_8 ⟨Nat.le_of_ble_eq_true rfl, Nat.le_of_ble_eq_true rfl⟩) hS (fun q _ h => (ro_free hS hA) q h) (ro_free hS hA) (fun r_3 u t H1 locs ht hvm hw hB hz1 hk1 hS => ?_)
    have hP := ro_keep hP hk1
    generalize H1 = H at hP hS ⊢
    rcases hw with ⟨rfl, hp_4⟩ | ⟨rfl, hp_4⟩
    · refine lv_if_ne (tgt := 16) hx hb dX2_same_11 (by decide) (fun _ => ?_) (fun c9 => absurd c9 (by decide))
      refine lv_aload_n hx hb dX2_same_16 rfl (lv_at hl 0 rfl) ?_
      obtain ⟨q1_5, pc_5, c1_5, c2_5, c3_5, q5_5, fc_5, q7_5, mc_5, e_5, fq1_5, fc1_5, fc2_5, fc3_5, fq5_5, ffc_5, fq7_5, fmc_5⟩ := hPI.a2 hh0
      obtain ⟨k_5, hk_5⟩ := va_plg hh0.1 e_5
      refine va_get (D := (dC, dI)) (ci := 2) (v := .ref q1_5) (C := RX2) (T := TX2) (N := 9) hx hb hts iX2_ hown hK hP k_5 hk_5 rfl 0 (by decide) (hts (.fieldLink RX2 11 "FieldLeaves" "slots" "[LFieldLeaves$Thing;") (by decide +kernel)) (fun _ h9 => h9) rfl dX2_same_17 ?_
      refine lv_iload_n hx hb dX2_same_20 rfl (lv_at hl 1 rfl) ?_
      obtain ⟨g_6, e_6, fg_6⟩ := hPI.a5 fq1_5
      obtain ⟨k_6, hk_6⟩ := va_plg fq1_5.1 e_6
      have h_6 : vp_in p0 12 := (vp_in_iff.mpr (by constructor <;> omega))
      refine va_aldq hx hb hK hP k_6 0 hk_6 rfl h_6 dX2_same_21 ?_
      have fo_6 := fg_6 _ (vp_lt h_6)
      generalize eo_6 : g_6 (Int32.toNatClampNeg p0) = o_6 at fo_6 ⊢
      rcases o_6 with _ | y_7
      · refine W.eq (g2 := F0 m 22 ls [.null]) rfl ?_
        refine lv_aload_n hx hb dX2_same_22 rfl (lv_at hl 0 rfl) ?_
        obtain ⟨k_8, hk_8⟩ := va_plg hh0.1 e_5
        refine va_get (D := (dC, dI)) (ci := 2) (v := .ref q1_5) (C := RX2) (T := TX2) (N := 9) hx hb hts iX2_ hown hK hP k_8 hk_8 rfl 0 (by decide) (hts (.fieldLink RX2 11 "FieldLeaves" "slots" "[LFieldLeaves$Thing;") (by decide +kernel)) (fun _ h9 => h9) rfl dX2_same_23 ?_
        refine lv_iload_n hx hb dX2_same_26 rfl (lv_at hl 2 rfl) ?_
        obtain ⟨k_9, hk_9⟩ := va_plg fq1_5.1 e_6
        have h_9 : vp_in p1 12 := (vp_in_iff.mpr (by constructor <;> omega))
        refine va_aldq hx hb hK hP k_9 0 hk_9 rfl h_9 dX2_same_27 ?_
        have fo_9 := fg_6 _ (vp_lt h_9)
        generalize eo_9 : g_6 (Int32.toNatClampNeg p1) = o_9 at fo_9 ⊢
        rcases o_9 with _ | y_10
        · refine W.eq (g2 := F0 m 28 ls [.null, .null]) rfl ?_
          refine W.eq (g2 := F0 m 28 ls (va_rf none :: va_rf none :: [])) rfl ?_
          refine lv_acmp_ne (tgt := 35) hx hb dX2_same_28 (by decide) (fun ca_11 => ?_) (fun ca_11 => ?_)
          · refine lv_iconst (v := 0) hx hb dX2_same_35 (by decide) ?_
            exact W.iret (v := 0) hx hb hr (fun t ht hW => ⟨⟨0, (), rfl, (by first | (simp only [ks_same, ob_q1 e_5, ob_pc e_5, ob_c1 e_5, ob_c2 e_5, ob_c3 e_5, ob_q5 e_5, ob_fc e_5, ob_q7 e_5, ob_mc e_5, ob_sl e_5 e_6, eo_6, eo_9, cl_0, cl_1, cl_2, cl_4, cl_10, cl_13, cl_16, ↓hp_2, ↓hp_4, km1_, k0_, k1_, ↓reduceIte, and_self, and_true, true_and, and_false, false_and, or_self, or_true, true_or, or_false, false_or, not_true_eq_false, not_false_eq_true, eq_self, Int.reduceLE, Int.reduceLT, Int.reduceEq]; done) | (simp only [ks_same, ob_q1 e_5, ob_pc e_5, ob_c1 e_5, ob_c2 e_5, ob_c3 e_5, ob_q5 e_5, ob_fc e_5, ob_q7 e_5, ob_mc e_5, ob_sl e_5 e_6, eo_6, eo_9, cl_0, cl_1, cl_2, cl_4, cl_10, cl_13, cl_16, ↓hp_2, ↓hp_4, km1_, k0_, k1_, ↓reduceIte, and_self, and_true, true_and, and_false, false_and, or_self, or_true, true_or, or_false, false_or, not_true_eq_false, not_false_eq_true, eq_self, Int.reduceLE, Int.reduceLT, Int.reduceEq] <;> (repeat' split) <;> first | with_reducible rfl | with_reducible assumption | rfl | (exfalso; omega) | trivial | assumption) | (simp only [ks_same, ob_q1 e_5, ob_pc e_5, ob_c1 e_5, ob_c2 e_5, ob_c3 e_5, ob_q5 e_5, ob_fc e_5, ob_q7 e_5, ob_mc e_5, ob_sl e_5 e_6, eo_6, eo_9, cl_0, cl_1, cl_2, cl_4, cl_10, cl_13, cl_16]; done) | (simp only [ks_same, ob_q1 e_5, ob_pc e_5, ob_c1 e_5, ob_c2 e_5, ob_c3 e_5, ob_q5 e_5, ob_fc e_5, ob_q7 e_5, ob_mc e_5, ob_sl e_5 e_6, eo_6, eo_9, cl_0, cl_1, cl_2, cl_4, cl_10, cl_13, cl_16] <;> (repeat' split) <;> first | rfl | (exfalso; omega) | contradiction | (simp only [ks_same, ob_q1 e_5, ob_pc e_5, ob_c1 e_5, ob_c2 e_5, ob_c3 e_5, ob_q5 e_5, ob_fc e_5, ob_q7 e_5, ob_mc e_5, ob_sl e_5 e_6, eo_6, eo_9, cl_0, cl_1, cl_2, cl_4, cl_10, cl_13, cl_16]; done) | (simp_all; done) | (simp_all; simp only [ks_same, ob_q1 e_5, ob_pc e_5, ob_c1 e_5, ob_c2 e_5, ob_c3 e_5, ob_q5 e_5, ob_fc e_5, ob_q7 e_5, ob_mc e_5, ob_sl e_5 e_6, eo_6, eo_9, cl_0, cl_1, cl_2, cl_4, cl_10, cl_13, cl_16]))), trivial⟩, hS.F ht⟩) hS.2.2 dX2_same_36
          · refine lv_iconst (v := 1) hx hb dX2_same_31 (by decide) ?_
            refine lv_goto (tgt := 36) hx hb dX2_same_32 (by decide) ?_
            exact W.iret (v := 1) hx hb hr (fun t ht hW => ⟨⟨1, (), rfl, (by first | (simp only [ks_same, ob_q1 e_5, ob_pc e_5, ob_c1 e_5, ob_c2 e_5, ob_c3 e_5, ob_q5 e_5, ob_fc e_5, ob_q7 e_5, ob_mc e_5, ob_sl e_5 e_6, eo_6, eo_9, cl_0, cl_1, cl_2, cl_4, cl_10, cl_13, cl_16, ↓hp_2, ↓hp_4, km1_, k0_, k1_, ↓reduceIte, and_self, and_true, true_and, and_false, false_and, or_self, or_true, true_or, or_false, false_or, not_true_eq_false, not_false_eq_true, eq_self, Int.reduceLE, Int.reduceLT, Int.reduceEq]; done) | (simp only [ks_same, ob_q1 e_5, ob_pc e_5, ob_c1 e_5, ob_c2 e_5, ob_c3 e_5, ob_q5 e_5, ob_fc e_5, ob_q7 e_5, ob_mc e_5, ob_sl e_5 e_6, eo_6, eo_9, cl_0, cl_1, cl_2, cl_4, cl_10, cl_13, cl_16, ↓hp_2, ↓hp_4, km1_, k0_, k1_, ↓reduceIte, and_self, and_true, true_and, and_false, false_and, or_self, or_true, true_or, or_false, false_or, not_true_eq_false, not_false_eq_true, eq_self, Int.reduceLE, Int.reduceLT, Int.reduceEq] <;> (repeat' split) <;> first | with_reducible rfl | with_reducible assumption | rfl | (exfalso; omega) | trivial | assumption) | (simp only [ks_same, ob_q1 e_5, ob_pc e_5, ob_c1 e_5, ob_c2 e_5, ob_c3 e_5, ob_q5 e_5, ob_fc e_5, ob_q7 e_5, ob_mc e_5, ob_sl e_5 e_6, eo_6, eo_9, cl_0, cl_1, cl_2, cl_4, cl_10, cl_13, cl_16]; done) | (simp only [ks_same, ob_q1 e_5, ob_pc e_5, ob_c1 e_5, ob_c2 e_5, ob_c3 e_5, ob_q5 e_5, ob_fc e_5, ob_q7 e_5, ob_mc e_5, ob_sl e_5 e_6, eo_6, eo_9, cl_0, cl_1, cl_2, cl_4, cl_10, cl_13, cl_16] <;> (repeat' split) <;> first | rfl | (exfalso; omega) | contradiction | (simp only [ks_same, ob_q1 e_5, ob_pc e_5, ob_c1 e_5, ob_c2 e_5, ob_c3 e_5, ob_q5 e_5, ob_fc e_5, ob_q7 e_5, ob_mc e_5, ob_sl e_5 e_6, eo_6, eo_9, cl_0, cl_1, cl_2, cl_4, cl_10, cl_13, cl_16]; done) | (simp_all; done) | (simp_all; simp only [ks_same, ob_q1 e_5, ob_pc e_5, ob_c1 e_5, ob_c2 e_5, ob_c3 e_5, ob_q5 e_5, ob_fc e_5, ob_q7 e_5, ob_mc e_5, ob_sl e_5 e_6, eo_6, eo_9, cl_0, cl_1, cl_2, cl_4, cl_10, cl_13, cl_16]))), trivial⟩, hS.F ht⟩) hS.2.2 dX2_same_36
        · have fy_10 := fo_9 y_10 rfl
          refine W.eq (g2 := F0 m 28 ls [.ref y_10, .null]) rfl ?_
          refine W.eq (g2 := F0 m 28 ls (va_rf (some y_10) :: va_rf none :: [])) rfl ?_
          refine lv_acmp_ne (tgt := 35) hx hb dX2_same_28 (by decide) (fun ca_12 => ?_) (fun ca_12 => ?_)
          · refine lv_iconst (v := 0) hx hb dX2_same_35 (by decide) ?_
            exact W.iret (v := 0) hx hb hr (fun t ht hW => ⟨⟨0, (), rfl, (by first | (simp only [ks_same, ob_q1 e_5, ob_pc e_5, ob_c1 e_5, ob_c2 e_5, ob_c3 e_5, ob_q5 e_5, ob_fc e_5, ob_q7 e_5, ob_mc e_5, ob_sl e_5 e_6, eo_6, eo_9, cl_0, cl_1, cl_2, cl_4, cl_10, cl_13, cl_16, ↓hp_2, ↓hp_4, km1_, k0_, k1_, ↓reduceIte, and_self, and_true, true_and, and_false, false_and, or_self, or_true, true_or, or_false, false_or, not_true_eq_false, not_false_eq_true, eq_self, Int.reduceLE, Int.reduceLT, Int.reduceEq]; done) | (simp only [ks_same, ob_q1 e_5, ob_pc e_5, ob_c1 e_5, ob_c2 e_5, ob_c3 e_5, ob_q5 e_5, ob_fc e_5, ob_q7 e_5, ob_mc e_5, ob_sl e_5 e_6, eo_6, eo_9, cl_0, cl_1, cl_2, cl_4, cl_10, cl_13, cl_16, ↓hp_2, ↓hp_4, km1_, k0_, k1_, ↓reduceIte, and_self, and_true, true_and, and_false, false_and, or_self, or_true, true_or, or_false, false_or, not_true_eq_false, not_false_eq_true, eq_self, Int.reduceLE, Int.reduceLT, Int.reduceEq] <;> (repeat' split) <;> first | with_reducible rfl | with_reducible assumption | rfl | (exfalso; omega) | trivial | assumption) | (simp only [ks_same, ob_q1 e_5, ob_pc e_5, ob_c1 e_5, ob_c2 e_5, ob_c3 e_5, ob_q5 e_5, ob_fc e_5, ob_q7 e_5, ob_mc e_5, ob_sl e_5 e_6, eo_6, eo_9, cl_0, cl_1, cl_2, cl_4, cl_10, cl_13, cl_16]; done) | (simp only [ks_same, ob_q1 e_5, ob_pc e_5, ob_c1 e_5, ob_c2 e_5, ob_c3 e_5, ob_q5 e_5, ob_fc e_5, ob_q7 e_5, ob_mc e_5, ob_sl e_5 e_6, eo_6, eo_9, cl_0, cl_1, cl_2, cl_4, cl_10, cl_13, cl_16] <;> (repeat' split) <;> first | rfl | (exfalso; omega) | contradiction | (simp only [ks_same, ob_q1 e_5, ob_pc e_5, ob_c1 e_5, ob_c2 e_5, ob_c3 e_5, ob_q5 e_5, ob_fc e_5, ob_q7 e_5, ob_mc e_5, ob_sl e_5 e_6, eo_6, eo_9, cl_0, cl_1, cl_2, cl_4, cl_10, cl_13, cl_16]; done) | (simp_all; done) | (simp_all; simp only [ks_same, ob_q1 e_5, ob_pc e_5, ob_c1 e_5, ob_c2 e_5, ob_c3 e_5, ob_q5 e_5, ob_fc e_5, ob_q7 e_5, ob_mc e_5, ob_sl e_5 e_6, eo_6, eo_9, cl_0, cl_1, cl_2, cl_4, cl_10, cl_13, cl_16]))), trivial⟩, hS.F ht⟩) hS.2.2 dX2_same_36
          · refine lv_iconst (v := 1) hx hb dX2_same_31 (by decide) ?_
            refine lv_goto (tgt := 36) hx hb dX2_same_32 (by decide) ?_
            exact W.iret (v := 1) hx hb hr (fun t ht hW => ⟨⟨1, (), rfl, (by first | (simp only [ks_same, ob_q1 e_5, ob_pc e_5, ob_c1 e_5, ob_c2 e_5, ob_c3 e_5, ob_q5 e_5, ob_fc e_5, ob_q7 e_5, ob_mc e_5, ob_sl e_5 e_6, eo_6, eo_9, cl_0, cl_1, cl_2, cl_4, cl_10, cl_13, cl_16, ↓hp_2, ↓hp_4, km1_, k0_, k1_, ↓reduceIte, and_self, and_true, true_and, and_false, false_and, or_self, or_true, true_or, or_false, false_or, not_true_eq_false, not_false_eq_true, eq_self, Int.reduceLE, Int.reduceLT, Int.reduceEq]; done) | (simp only [ks_same, ob_q1 e_5, ob_pc e_5, ob_c1 e_5, ob_c2 e_5, ob_c3 e_5, ob_q5 e_5, ob_fc e_5, ob_q7 e_5, ob_mc e_5, ob_sl e_5 e_6, eo_6, eo_9, cl_0, cl_1, cl_2, cl_4, cl_10, cl_13, cl_16, ↓hp_2, ↓hp_4, km1_, k0_, k1_, ↓reduceIte, and_self, and_true, true_and, and_false, false_and, or_self, or_true, true_or, or_false, false_or, not_true_eq_false, not_false_eq_true, eq_self, Int.reduceLE, Int.reduceLT, Int.reduceEq] <;> (repeat' split) <;> first | with_reducible rfl | with_reducible assumption | rfl | (exfalso; omega) | trivial | assumption) | (simp only [ks_same, ob_q1 e_5, ob_pc e_5, ob_c1 e_5, ob_c2 e_5, ob_c3 e_5, ob_q5 e_5, ob_fc e_5, ob_q7 e_5, ob_mc e_5, ob_sl e_5 e_6, eo_6, eo_9, cl_0, cl_1, cl_2, cl_4, cl_10, cl_13, cl_16]; done) | (simp only [ks_same, ob_q1 e_5, ob_pc e_5, ob_c1 e_5, ob_c2 e_5, ob_c3 e_5, ob_q5 e_5, ob_fc e_5, ob_q7 e_5, ob_mc e_5, ob_sl e_5 e_6, eo_6, eo_9, cl_0, cl_1, cl_2, cl_4, cl_10, cl_13, cl_16] <;> (repeat' split) <;> first | rfl | (exfalso; omega) | contradiction | (simp only [ks_same, ob_q1 e_5, ob_pc e_5, ob_c1 e_5, ob_c2 e_5, ob_c3 e_5, ob_q5 e_5, ob_fc e_5, ob_q7 e_5, ob_mc e_5, ob_sl e_5 e_6, eo_6, eo_9, cl_0, cl_1, cl_2, cl_4, cl_10, cl_13, cl_16]; done) | (simp_all; done) | (simp_all; simp only [ks_same, ob_q1 e_5, ob_pc e_5, ob_c1 e_5, ob_c2 e_5, ob_c3 e_5, ob_q5 e_5, ob_fc e_5, ob_q7 e_5, ob_mc e_5, ob_sl e_5 e_6, eo_6, eo_9, cl_0, cl_1, cl_2, cl_4, cl_10, cl_13, cl_16]))), trivial⟩, hS.F ht⟩) hS.2.2 dX2_same_36
      · have fy_7 := fo_6 y_7 rfl
        refine W.eq (g2 := F0 m 22 ls [.ref y_7]) rfl ?_
        refine lv_aload_n hx hb dX2_same_22 rfl (lv_at hl 0 rfl) ?_
        obtain ⟨k_13, hk_13⟩ := va_plg hh0.1 e_5
        refine va_get (D := (dC, dI)) (ci := 2) (v := .ref q1_5) (C := RX2) (T := TX2) (N := 9) hx hb hts iX2_ hown hK hP k_13 hk_13 rfl 0 (by decide) (hts (.fieldLink RX2 11 "FieldLeaves" "slots" "[LFieldLeaves$Thing;") (by decide +kernel)) (fun _ h9 => h9) rfl dX2_same_23 ?_
        refine lv_iload_n hx hb dX2_same_26 rfl (lv_at hl 2 rfl) ?_
        obtain ⟨k_14, hk_14⟩ := va_plg fq1_5.1 e_6
        have h_14 : vp_in p1 12 := (vp_in_iff.mpr (by constructor <;> omega))
        refine va_aldq hx hb hK hP k_14 0 hk_14 rfl h_14 dX2_same_27 ?_
        have fo_14 := fg_6 _ (vp_lt h_14)
        generalize eo_14 : g_6 (Int32.toNatClampNeg p1) = o_14 at fo_14 ⊢
        rcases o_14 with _ | y_15
        · refine W.eq (g2 := F0 m 28 ls [.null, .ref y_7]) rfl ?_
          refine W.eq (g2 := F0 m 28 ls (va_rf none :: va_rf (some y_7) :: [])) rfl ?_
          refine lv_acmp_ne (tgt := 35) hx hb dX2_same_28 (by decide) (fun ca_16 => ?_) (fun ca_16 => ?_)
          · refine lv_iconst (v := 0) hx hb dX2_same_35 (by decide) ?_
            exact W.iret (v := 0) hx hb hr (fun t ht hW => ⟨⟨0, (), rfl, (by first | (simp only [ks_same, ob_q1 e_5, ob_pc e_5, ob_c1 e_5, ob_c2 e_5, ob_c3 e_5, ob_q5 e_5, ob_fc e_5, ob_q7 e_5, ob_mc e_5, ob_sl e_5 e_6, eo_6, eo_14, cl_0, cl_1, cl_2, cl_4, cl_10, cl_13, cl_16, ↓hp_2, ↓hp_4, km1_, k0_, k1_, ↓reduceIte, and_self, and_true, true_and, and_false, false_and, or_self, or_true, true_or, or_false, false_or, not_true_eq_false, not_false_eq_true, eq_self, Int.reduceLE, Int.reduceLT, Int.reduceEq]; done) | (simp only [ks_same, ob_q1 e_5, ob_pc e_5, ob_c1 e_5, ob_c2 e_5, ob_c3 e_5, ob_q5 e_5, ob_fc e_5, ob_q7 e_5, ob_mc e_5, ob_sl e_5 e_6, eo_6, eo_14, cl_0, cl_1, cl_2, cl_4, cl_10, cl_13, cl_16, ↓hp_2, ↓hp_4, km1_, k0_, k1_, ↓reduceIte, and_self, and_true, true_and, and_false, false_and, or_self, or_true, true_or, or_false, false_or, not_true_eq_false, not_false_eq_true, eq_self, Int.reduceLE, Int.reduceLT, Int.reduceEq] <;> (repeat' split) <;> first | with_reducible rfl | with_reducible assumption | rfl | (exfalso; omega) | trivial | assumption) | (simp only [ks_same, ob_q1 e_5, ob_pc e_5, ob_c1 e_5, ob_c2 e_5, ob_c3 e_5, ob_q5 e_5, ob_fc e_5, ob_q7 e_5, ob_mc e_5, ob_sl e_5 e_6, eo_6, eo_14, cl_0, cl_1, cl_2, cl_4, cl_10, cl_13, cl_16]; done) | (simp only [ks_same, ob_q1 e_5, ob_pc e_5, ob_c1 e_5, ob_c2 e_5, ob_c3 e_5, ob_q5 e_5, ob_fc e_5, ob_q7 e_5, ob_mc e_5, ob_sl e_5 e_6, eo_6, eo_14, cl_0, cl_1, cl_2, cl_4, cl_10, cl_13, cl_16] <;> (repeat' split) <;> first | rfl | (exfalso; omega) | contradiction | (simp only [ks_same, ob_q1 e_5, ob_pc e_5, ob_c1 e_5, ob_c2 e_5, ob_c3 e_5, ob_q5 e_5, ob_fc e_5, ob_q7 e_5, ob_mc e_5, ob_sl e_5 e_6, eo_6, eo_14, cl_0, cl_1, cl_2, cl_4, cl_10, cl_13, cl_16]; done) | (simp_all; done) | (simp_all; simp only [ks_same, ob_q1 e_5, ob_pc e_5, ob_c1 e_5, ob_c2 e_5, ob_c3 e_5, ob_q5 e_5, ob_fc e_5, ob_q7 e_5, ob_mc e_5, ob_sl e_5 e_6, eo_6, eo_14, cl_0, cl_1, cl_2, cl_4, cl_10, cl_13, cl_16]))), trivial⟩, hS.F ht⟩) hS.2.2 dX2_same_36
          · refine lv_iconst (v := 1) hx hb dX2_same_31 (by decide) ?_
            refine lv_goto (tgt := 36) hx hb dX2_same_32 (by decide) ?_
            exact W.iret (v := 1) hx hb hr (fun t ht hW => ⟨⟨1, (), rfl, (by first | (simp only [ks_same, ob_q1 e_5, ob_pc e_5, ob_c1 e_5, ob_c2 e_5, ob_c3 e_5, ob_q5 e_5, ob_fc e_5, ob_q7 e_5, ob_mc e_5, ob_sl e_5 e_6, eo_6, eo_14, cl_0, cl_1, cl_2, cl_4, cl_10, cl_13, cl_16, ↓hp_2, ↓hp_4, km1_, k0_, k1_, ↓reduceIte, and_self, and_true, true_and, and_false, false_and, or_self, or_true, true_or, or_false, false_or, not_true_eq_false, not_false_eq_true, eq_self, Int.reduceLE, Int.reduceLT, Int.reduceEq]; done) | (simp only [ks_same, ob_q1 e_5, ob_pc e_5, ob_c1 e_5, ob_c2 e_5, ob_c3 e_5, ob_q5 e_5, ob_fc e_5, ob_q7 e_5, ob_mc e_5, ob_sl e_5 e_6, eo_6, eo_14, cl_0, cl_1, cl_2, cl_4, cl_10, cl_13, cl_16, ↓hp_2, ↓hp_4, km1_, k0_, k1_, ↓reduceIte, and_self, and_true, true_and, and_false, false_and, or_self, or_true, true_or, or_false, false_or, not_true_eq_false, not_false_eq_true, eq_self, Int.reduceLE, Int.reduceLT, Int.reduceEq] <;> (repeat' split) <;> first | with_reducible rfl | with_reducible assumption | rfl | (exfalso; omega) | trivial | assumption) | (simp only [ks_same, ob_q1 e_5, ob_pc e_5, ob_c1 e_5, ob_c2 e_5, ob_c3 e_5, ob_q5 e_5, ob_fc e_5, ob_q7 e_5, ob_mc e_5, ob_sl e_5 e_6, eo_6, eo_14, cl_0, cl_1, cl_2, cl_4, cl_10, cl_13, cl_16]; done) | (simp only [ks_same, ob_q1 e_5, ob_pc e_5, ob_c1 e_5, ob_c2 e_5, ob_c3 e_5, ob_q5 e_5, ob_fc e_5, ob_q7 e_5, ob_mc e_5, ob_sl e_5 e_6, eo_6, eo_14, cl_0, cl_1, cl_2, cl_4, cl_10, cl_13, cl_16] <;> (repeat' split) <;> first | rfl | (exfalso; omega) | contradiction | (simp only [ks_same, ob_q1 e_5, ob_pc e_5, ob_c1 e_5, ob_c2 e_5, ob_c3 e_5, ob_q5 e_5, ob_fc e_5, ob_q7 e_5, ob_mc e_5, ob_sl e_5 e_6, eo_6, eo_14, cl_0, cl_1, cl_2, cl_4, cl_10, cl_13, cl_16]; done) | (simp_all; done) | (simp_all; simp only [ks_same, ob_q1 e_5, ob_pc e_5, ob_c1 e_5, ob_c2 e_5, ob_c3 e_5, ob_q5 e_5, ob_fc e_5, ob_q7 e_5, ob_mc e_5, ob_sl e_5 e_6, eo_6, eo_14, cl_0, cl_1, cl_2, cl_4, cl_10, cl_13, cl_16]))), trivial⟩, hS.F ht⟩) hS.2.2 dX2_same_36
        · have fy_15 := fo_14 y_15 rfl
          refine W.eq (g2 := F0 m 28 ls [.ref y_15, .ref y_7]) rfl ?_
          refine W.eq (g2 := F0 m 28 ls (va_rf (some y_15) :: va_rf (some y_7) :: [])) rfl ?_
          refine lv_acmp_ne (tgt := 35) hx hb dX2_same_28 (by decide) (fun ca_17 => ?_) (fun ca_17 => ?_)
          · refine lv_iconst (v := 0) hx hb dX2_same_35 (by decide) ?_
            exact W.iret (v := 0) hx hb hr (fun t ht hW => ⟨⟨0, (), rfl, (by first | (simp only [ks_same, ob_q1 e_5, ob_pc e_5, ob_c1 e_5, ob_c2 e_5, ob_c3 e_5, ob_q5 e_5, ob_fc e_5, ob_q7 e_5, ob_mc e_5, ob_sl e_5 e_6, eo_6, eo_14, cl_0, cl_1, cl_2, cl_4, cl_10, cl_13, cl_16, ↓hp_2, ↓hp_4, km1_, k0_, k1_, ↓reduceIte, and_self, and_true, true_and, and_false, false_and, or_self, or_true, true_or, or_false, false_or, not_true_eq_false, not_false_eq_true, eq_self, Int.reduceLE, Int.reduceLT, Int.reduceEq]; done) | (simp only [ks_same, ob_q1 e_5, ob_pc e_5, ob_c1 e_5, ob_c2 e_5, ob_c3 e_5, ob_q5 e_5, ob_fc e_5, ob_q7 e_5, ob_mc e_5, ob_sl e_5 e_6, eo_6, eo_14, cl_0, cl_1, cl_2, cl_4, cl_10, cl_13, cl_16, ↓hp_2, ↓hp_4, km1_, k0_, k1_, ↓reduceIte, and_self, and_true, true_and, and_false, false_and, or_self, or_true, true_or, or_false, false_or, not_true_eq_false, not_false_eq_true, eq_self, Int.reduceLE, Int.reduceLT, Int.reduceEq] <;> (repeat' split) <;> first | with_reducible rfl | with_reducible assumption | rfl | (exfalso; omega) | trivial | assumption) | (simp only [ks_same, ob_q1 e_5, ob_pc e_5, ob_c1 e_5, ob_c2 e_5, ob_c3 e_5, ob_q5 e_5, ob_fc e_5, ob_q7 e_5, ob_mc e_5, ob_sl e_5 e_6, eo_6, eo_14, cl_0, cl_1, cl_2, cl_4, cl_10, cl_13, cl_16]; done) | (simp only [ks_same, ob_q1 e_5, ob_pc e_5, ob_c1 e_5, ob_c2 e_5, ob_c3 e_5, ob_q5 e_5, ob_fc e_5, ob_q7 e_5, ob_mc e_5, ob_sl e_5 e_6, eo_6, eo_14, cl_0, cl_1, cl_2, cl_4, cl_10, cl_13, cl_16] <;> (repeat' split) <;> first | rfl | (exfalso; omega) | contradiction | (simp only [ks_same, ob_q1 e_5, ob_pc e_5, ob_c1 e_5, ob_c2 e_5, ob_c3 e_5, ob_q5 e_5, ob_fc e_5, ob_q7 e_5, ob_mc e_5, ob_sl e_5 e_6, eo_6, eo_14, cl_0, cl_1, cl_2, cl_4, cl_10, cl_13, cl_16]; done) | (simp_all; done) | (simp_all; simp only [ks_same, ob_q1 e_5, ob_pc e_5, ob_c1 e_5, ob_c2 e_5, ob_c3 e_5, ob_q5 e_5, ob_fc e_5, ob_q7 e_5, ob_mc e_5, ob_sl e_5 e_6, eo_6, eo_14, cl_0, cl_1, cl_2, cl_4, cl_10, cl_13, cl_16]))), trivial⟩, hS.F ht⟩) hS.2.2 dX2_same_36
          · refine lv_iconst (v := 1) hx hb dX2_same_31 (by decide) ?_
            refine lv_goto (tgt := 36) hx hb dX2_same_32 (by decide) ?_
            exact W.iret (v := 1) hx hb hr (fun t ht hW => ⟨⟨1, (), rfl, (by first | (simp only [ks_same, ob_q1 e_5, ob_pc e_5, ob_c1 e_5, ob_c2 e_5, ob_c3 e_5, ob_q5 e_5, ob_fc e_5, ob_q7 e_5, ob_mc e_5, ob_sl e_5 e_6, eo_6, eo_14, cl_0, cl_1, cl_2, cl_4, cl_10, cl_13, cl_16, ↓hp_2, ↓hp_4, km1_, k0_, k1_, ↓reduceIte, and_self, and_true, true_and, and_false, false_and, or_self, or_true, true_or, or_false, false_or, not_true_eq_false, not_false_eq_true, eq_self, Int.reduceLE, Int.reduceLT, Int.reduceEq]; done) | (simp only [ks_same, ob_q1 e_5, ob_pc e_5, ob_c1 e_5, ob_c2 e_5, ob_c3 e_5, ob_q5 e_5, ob_fc e_5, ob_q7 e_5, ob_mc e_5, ob_sl e_5 e_6, eo_6, eo_14, cl_0, cl_1, cl_2, cl_4, cl_10, cl_13, cl_16, ↓hp_2, ↓hp_4, km1_, k0_, k1_, ↓reduceIte, and_self, and_true, true_and, and_false, false_and, or_self, or_true, true_or, or_false, false_or, not_true_eq_false, not_false_eq_true, eq_self, Int.reduceLE, Int.reduceLT, Int.reduceEq] <;> (repeat' split) <;> first | with_reducible rfl | with_reducible assumption | rfl | (exfalso; omega) | trivial | assumption) | (simp only [ks_same, ob_q1 e_5, ob_pc e_5, ob_c1 e_5, ob_c2 e_5, ob_c3 e_5, ob_q5 e_5, ob_fc e_5, ob_q7 e_5, ob_mc e_5, ob_sl e_5 e_6, eo_6, eo_14, cl_0, cl_1, cl_2, cl_4, cl_10, cl_13, cl_16]; done) | (simp only [ks_same, ob_q1 e_5, ob_pc e_5, ob_c1 e_5, ob_c2 e_5, ob_c3 e_5, ob_q5 e_5, ob_fc e_5, ob_q7 e_5, ob_mc e_5, ob_sl e_5 e_6, eo_6, eo_14, cl_0, cl_1, cl_2, cl_4, cl_10, cl_13, cl_16] <;> (repeat' split) <;> first | rfl | (exfalso; omega) | contradiction | (simp only [ks_same, ob_q1 e_5, ob_pc e_5, ob_c1 e_5, ob_c2 e_5, ob_c3 e_5, ob_q5 e_5, ob_fc e_5, ob_q7 e_5, ob_mc e_5, ob_sl e_5 e_6, eo_6, eo_14, cl_0, cl_1, cl_2, cl_4, cl_10, cl_13, cl_16]; done) | (simp_all; done) | (simp_all; simp only [ks_same, ob_q1 e_5, ob_pc e_5, ob_c1 e_5, ob_c2 e_5, ob_c3 e_5, ob_q5 e_5, ob_fc e_5, ob_q7 e_5, ob_mc e_5, ob_sl e_5 e_6, eo_6, eo_14, cl_0, cl_1, cl_2, cl_4, cl_10, cl_13, cl_16]))), trivial⟩, hS.F ht⟩) hS.2.2 dX2_same_36
    · refine lv_if_ne (tgt := 16) hx hb dX2_same_11 (by decide) (fun c9 => absurd c9 (by decide)) (fun _ => ?_)
      refine lv_iconst (v := (-1)) hx hb dX2_same_14 (by decide) ?_
      exact W.iret (v := (-1)) hx hb hr (fun t ht hW => ⟨⟨(-1), (), rfl, (by first | (simp only [ks_same, cl_0, cl_1, cl_2, cl_4, cl_10, cl_13, cl_16, ↓hp_2, ↓hp_4, km1_, k0_, k1_, ↓reduceIte, and_self, and_true, true_and, and_false, false_and, or_self, or_true, true_or, or_false, false_or, not_true_eq_false, not_false_eq_true, eq_self, Int.reduceLE, Int.reduceLT, Int.reduceEq]; done) | (simp only [ks_same, cl_0, cl_1, cl_2, cl_4, cl_10, cl_13, cl_16, ↓hp_2, ↓hp_4, km1_, k0_, k1_, ↓reduceIte, and_self, and_true, true_and, and_false, false_and, or_self, or_true, true_or, or_false, false_or, not_true_eq_false, not_false_eq_true, eq_self, Int.reduceLE, Int.reduceLT, Int.reduceEq] <;> (repeat' split) <;> first | with_reducible rfl | with_reducible assumption | rfl | (exfalso; omega) | trivial | assumption) | (simp only [ks_same, cl_0, cl_1, cl_2, cl_4, cl_10, cl_13, cl_16]; done) | (simp only [ks_same, cl_0, cl_1, cl_2, cl_4, cl_10, cl_13, cl_16] <;> (repeat' split) <;> first | rfl | (exfalso; omega) | contradiction | (simp only [ks_same, cl_0, cl_1, cl_2, cl_4, cl_10, cl_13, cl_16]; done) | (simp_all; done) | (simp_all; simp only [ks_same, cl_0, cl_1, cl_2, cl_4, cl_10, cl_13, cl_16]))), trivial⟩, hS.F ht⟩) hS.2.2 dX2_same_15
  · refine lv_if_eq (tgt := 14) hx hb dX2_same_4 (by decide) (fun _ => ?_) (fun c9 => absurd c9 (by decide))
    refine lv_iconst (v := (-1)) hx hb dX2_same_14 (by decide) ?_
    exact W.iret (v := (-1)) hx hb hr (fun t ht hW => ⟨⟨(-1), (), rfl, (by first | (simp only [ks_same, cl_0, cl_1, cl_2, cl_4, cl_10, cl_13, cl_16, ↓hp_2, km1_, k0_, k1_, ↓reduceIte, and_self, and_true, true_and, and_false, false_and, or_self, or_true, true_or, or_false, false_or, not_true_eq_false, not_false_eq_true, eq_self, Int.reduceLE, Int.reduceLT, Int.reduceEq]; done) | (simp only [ks_same, cl_0, cl_1, cl_2, cl_4, cl_10, cl_13, cl_16, ↓hp_2, km1_, k0_, k1_, ↓reduceIte, and_self, and_true, true_and, and_false, false_and, or_self, or_true, true_or, or_false, false_or, not_true_eq_false, not_false_eq_true, eq_self, Int.reduceLE, Int.reduceLT, Int.reduceEq] <;> (repeat' split) <;> first | with_reducible rfl | with_reducible assumption | rfl | (exfalso; omega) | trivial | assumption) | (simp only [ks_same, cl_0, cl_1, cl_2, cl_4, cl_10, cl_13, cl_16]; done) | (simp only [ks_same, cl_0, cl_1, cl_2, cl_4, cl_10, cl_13, cl_16] <;> (repeat' split) <;> first | rfl | (exfalso; omega) | contradiction | (simp only [ks_same, cl_0, cl_1, cl_2, cl_4, cl_10, cl_13, cl_16]; done) | (simp_all; done) | (simp_all; simp only [ks_same, cl_0, cl_1, cl_2, cl_4, cl_10, cl_13, cl_16]))), trivial⟩, hS.F ht⟩) hS.2.2 dX2_same_15
set_option maxRecDepth 20000 in
theorem in_u_X2_cls_X1 : ∀ w ∈ u_ws RX1 TX1 6, w ∈ wsX2_cls := by decide +kernel
set_option maxRecDepth 20000 in
theorem in_u_X2_cls_X2 : ∀ w ∈ u_ws RX2 TX2 9, w ∈ wsX2_cls := by decide +kernel
set_option maxRecDepth 100000 in
set_option maxHeartbeats 4000000 in
theorem u_X2_cls (l : Launch) (dC : Nat → ClassId) (dI : Nat → Nat → Nat) (TT : Nat × Nat × Nat) (sz : Nat) (kT kI kJ : ClassId) (K : Nat → Nat) (L : List Nat) (f : Nat → va_E) (hPI : PI kT kI kJ K L f) (h0 : Nat) (hh0 : isr K L 2 h0) (p0 : Int32) : Met l yX2_cls wsX2_cls ({ frames := 1, cells := 0, slots := 0, locals := 20 } : Room) (va_Pc [.ref h0, .int p0] (pr dC dI (va_pl L f) [] [(kT, .object RX1), (kI, .int), (kJ, .long)] sz TT)) (va_Qi (fun (r : Int32) (u : Unit) => r = ks_cls (g_sl f h0) (g_cn f) p0) (fun _ _ => True) (va_A [] sz)) 0 0 (va_A [] sz) := by
  refine Met.ofW (cc := cX2_cls) (maxL := 3) (ret := (some .int)) (by decide) rfl ?_
  intro p e s m args below meth c s₁ B hml hv
  obtain ⟨rfl, hsz, hP, hK, hD0, hst⟩ := hv
  have hx := B.exec
  have hb := B.bytes
  have hr := B.returns
  have hts := atoms_spec (ws := wsX2_cls) B.pre
  have hown : s.vm.findClass RX2 = some m.cls := findClass_of_methodNamed B.named
  have hlocks := B.notSynchronized
  have iX1_ := in_u_X2_cls_X1
  have iX2_ := in_u_X2_cls_X2
  subst hsz
  have hD := hD0.self (sz := s.heap.size)
  generalize hAe : va_A [] s.heap.size = A at hD hst ⊢
  have hA : ∀ q : Nat, s.heap.size ≤ q → A q := fun q h => by rw [← hAe]; exact Or.inr h
  have hS : va_S A s.heap s.heap [] := va_S.rf
  have hl := lv_entry ([.ref h0, .int p0]) (n := 3) (Nat.le_of_ble_eq_true rfl)
  rw [lg_entry_eq]
  generalize (lg_sl ([.ref h0, .int p0]) ++ List.replicate (3 - (lg_sl ([.ref h0, .int p0])).length) Slot.unset).toArray = ls at hl ⊢
  have hl : lv_has ls 3 [(0, .ref h0), (1, .int p0)] := hl
  have km4_ : Int32.toInt (-4) = -4 := by decide
  have km1_ : Int32.toInt (-1) = -1 := by decide
  refine lv_iload_n hx hb dX2_cls_0 rfl (lv_at hl 1 rfl) ?_
  refine va_calli (va_runS (As := [.int p0]) (rest := []) ⟨hx, hb, hml, hown, hts⟩ (c_X2_isSlot l dC dI TT s.heap.size p0) (va_cwS 1 hts gX2_cls_X2_isSlot rfl rfl rfl (by decide +kernel) ⟨Nat.le_of_ble_eq_true rfl, Nat.le_of_ble_eq_true rfl⟩) (pr_S (ws := []) (wA := []) (tys := []) vp_nil (hK.sub [] rfl) vd_nil hst hS (ro_free hS hA)) rfl rfl hl.1 rfl (lv_room (Nat.le_of_ble_eq_true rfl)) dX2_cls_1 ⟨Nat.le_of_ble_eq_true rfl, Nat.le_of_ble_eq_true rfl⟩) hS (fun q _ h => (ro_free hS hA) q h) (ro_free hS hA) (fun r_1 u t H1 locs ht hvm hw hB hz1 hk1 hS => ?_)
  have hP := ro_keep hP hk1
  generalize H1 = H at hP hS ⊢
  rcases hw with ⟨rfl, hp_2⟩ | ⟨rfl, hp_2⟩
  · refine lv_if_ne (tgt := 9) hx hb dX2_cls_4 (by decide) (fun _ => ?_) (fun c9 => absurd c9 (by decide))
    refine lv_aload_n hx hb dX2_cls_9 rfl (lv_at hl 0 rfl) ?_
    obtain ⟨q1_3, pc_3, c1_3, c2_3, c3_3, q5_3, fc_3, q7_3, mc_3, e_3, fq1_3, fc1_3, fc2_3, fc3_3, fq5_3, ffc_3, fq7_3, fmc_3⟩ := hPI.a2 hh0
    obtain ⟨k_3, hk_3⟩ := va_plg hh0.1 e_3
    refine va_get (D := (dC, dI)) (ci := 2) (v := .ref q1_3) (C := RX2) (T := TX2) (N := 9) hx hb hts iX2_ hown hK hP k_3 hk_3 rfl 0 (by decide) (hts (.fieldLink RX2 11 "FieldLeaves" "slots" "[LFieldLeaves$Thing;") (by decide +kernel)) (fun _ h9 => h9) rfl dX2_cls_10 ?_
    refine lv_iload_n hx hb dX2_cls_13 rfl (lv_at hl 1 rfl) ?_
    obtain ⟨g_4, e_4, fg_4⟩ := hPI.a5 fq1_3
    obtain ⟨k_4, hk_4⟩ := va_plg fq1_3.1 e_4
    have h_4 : vp_in p0 12 := (vp_in_iff.mpr (by constructor <;> omega))
    refine va_aldq hx hb hK hP k_4 0 hk_4 rfl h_4 dX2_cls_14 ?_
    have fo_4 := fg_4 _ (vp_lt h_4)
    generalize eo_4 : g_4 (Int32.toNatClampNeg p0) = o_4 at fo_4 ⊢
    rcases o_4 with _ | y_5
    · refine W.eq (g2 := F0 m 15 ls [.null]) rfl ?_
      refine lv_astore_nN (lv' := [(2, .null), (0, .ref h0), (1, .int p0)]) hx hb dX2_cls_15 rfl hl (by decide) rfl (fun ls hl => ?_)
      refine lv_aload_nN hx hb dX2_cls_16 rfl (lv_at hl 0 rfl) ?_
      refine lv_ifnonnullN hx hb dX2_cls_17 ?_
      refine lv_bipush (v := (-4)) hx hb dX2_cls_20 (by decide) ?_
      refine lv_goto (tgt := 29) hx hb dX2_cls_22 (by decide) ?_
      exact W.iret (v := (-4)) hx hb hr (fun t ht hW => ⟨⟨(-4), (), rfl, (by first | (simp only [ks_cls, ob_q1 e_3, ob_pc e_3, ob_c1 e_3, ob_c2 e_3, ob_c3 e_3, ob_q5 e_3, ob_fc e_3, ob_q7 e_3, ob_mc e_3, ob_sl e_3 e_4, eo_4, cl_0, cl_1, cl_2, cl_4, cl_10, cl_13, cl_16, ↓hp_2, km4_, km1_, ↓reduceIte, and_self, and_true, true_and, and_false, false_and, or_self, or_true, true_or, or_false, false_or, not_true_eq_false, not_false_eq_true, eq_self, Int.reduceLE, Int.reduceLT, Int.reduceEq]; done) | (simp only [ks_cls, ob_q1 e_3, ob_pc e_3, ob_c1 e_3, ob_c2 e_3, ob_c3 e_3, ob_q5 e_3, ob_fc e_3, ob_q7 e_3, ob_mc e_3, ob_sl e_3 e_4, eo_4, cl_0, cl_1, cl_2, cl_4, cl_10, cl_13, cl_16, ↓hp_2, km4_, km1_, ↓reduceIte, and_self, and_true, true_and, and_false, false_and, or_self, or_true, true_or, or_false, false_or, not_true_eq_false, not_false_eq_true, eq_self, Int.reduceLE, Int.reduceLT, Int.reduceEq] <;> (repeat' split) <;> first | with_reducible rfl | with_reducible assumption | rfl | (exfalso; omega) | trivial | assumption) | (simp only [ks_cls, ob_q1 e_3, ob_pc e_3, ob_c1 e_3, ob_c2 e_3, ob_c3 e_3, ob_q5 e_3, ob_fc e_3, ob_q7 e_3, ob_mc e_3, ob_sl e_3 e_4, eo_4, cl_0, cl_1, cl_2, cl_4, cl_10, cl_13, cl_16]; done) | (simp only [ks_cls, ob_q1 e_3, ob_pc e_3, ob_c1 e_3, ob_c2 e_3, ob_c3 e_3, ob_q5 e_3, ob_fc e_3, ob_q7 e_3, ob_mc e_3, ob_sl e_3 e_4, eo_4, cl_0, cl_1, cl_2, cl_4, cl_10, cl_13, cl_16] <;> (repeat' split) <;> first | rfl | (exfalso; omega) | contradiction | (simp only [ks_cls, ob_q1 e_3, ob_pc e_3, ob_c1 e_3, ob_c2 e_3, ob_c3 e_3, ob_q5 e_3, ob_fc e_3, ob_q7 e_3, ob_mc e_3, ob_sl e_3 e_4, eo_4, cl_0, cl_1, cl_2, cl_4, cl_10, cl_13, cl_16]; done) | (simp_all; done) | (simp_all; simp only [ks_cls, ob_q1 e_3, ob_pc e_3, ob_c1 e_3, ob_c2 e_3, ob_c3 e_3, ob_q5 e_3, ob_fc e_3, ob_q7 e_3, ob_mc e_3, ob_sl e_3 e_4, eo_4, cl_0, cl_1, cl_2, cl_4, cl_10, cl_13, cl_16]))), trivial⟩, hS.F ht⟩) hS.2.2 dX2_cls_29
    · have fy_5 := fo_4 y_5 rfl
      refine W.eq (g2 := F0 m 15 ls [.ref y_5]) rfl ?_
      refine lv_astore_n (lv' := [(2, .ref y_5), (0, .ref h0), (1, .int p0)]) hx hb dX2_cls_15 rfl hl (by decide) rfl (fun ls hl => ?_)
      refine lv_aload_n hx hb dX2_cls_16 rfl (lv_at hl 0 rfl) ?_
      refine lv_ifnonnull (tgt := 25) hx hb dX2_cls_17 (by decide) ?_
      refine lv_aload_n hx hb dX2_cls_25 rfl (lv_at hl 0 rfl) ?_
      obtain ⟨cn_6, v_6, b_6, m_6, st_6, i_6, e_6, fv_6, fb_6, fm_6, fst_6, fi_6⟩ := hPI.a1 fy_5
      obtain ⟨k_6, hk_6⟩ := va_plg fy_5.1 e_6
      refine va_get (D := (dC, dI)) (ci := 1) (v := .int cn_6) (C := RX1) (T := TX1) (N := 6) hx hb hts iX1_ hown hK hP k_6 hk_6 rfl 0 (by decide) (hts (.fieldLink RX2 45 "FieldLeaves$Thing" "classNumber" "I") (by decide +kernel)) (fun _ h9 => h9) rfl dX2_cls_26 ?_
      exact W.iret (v := cn_6) hx hb hr (fun t ht hW => ⟨⟨cn_6, (), rfl, (by have hc2 := congrArg Int32.toInt (th_cn e_6); first | (simp only [ks_cls, ob_q1 e_3, ob_pc e_3, ob_c1 e_3, ob_c2 e_3, ob_c3 e_3, ob_q5 e_3, ob_fc e_3, ob_q7 e_3, ob_mc e_3, ob_sl e_3 e_4, th_cn e_6, th_pv e_6, th_b e_6, th_m e_6, th_s e_6, th_lk e_6, eo_4, cl_0, cl_1, cl_2, cl_4, cl_10, cl_13, cl_16]; done) | (simp only [ks_cls, ob_q1 e_3, ob_pc e_3, ob_c1 e_3, ob_c2 e_3, ob_c3 e_3, ob_q5 e_3, ob_fc e_3, ob_q7 e_3, ob_mc e_3, ob_sl e_3 e_4, th_cn e_6, th_pv e_6, th_b e_6, th_m e_6, th_s e_6, th_lk e_6, eo_4, cl_0, cl_1, cl_2, cl_4, cl_10, cl_13, cl_16] <;> (repeat' split) <;> first | rfl | (exfalso; omega) | contradiction | (simp only [ks_cls, ob_q1 e_3, ob_pc e_3, ob_c1 e_3, ob_c2 e_3, ob_c3 e_3, ob_q5 e_3, ob_fc e_3, ob_q7 e_3, ob_mc e_3, ob_sl e_3 e_4, th_cn e_6, th_pv e_6, th_b e_6, th_m e_6, th_s e_6, th_lk e_6, eo_4, cl_0, cl_1, cl_2, cl_4, cl_10, cl_13, cl_16]; done) | (simp_all; done) | (simp_all; simp only [ks_cls, ob_q1 e_3, ob_pc e_3, ob_c1 e_3, ob_c2 e_3, ob_c3 e_3, ob_q5 e_3, ob_fc e_3, ob_q7 e_3, ob_mc e_3, ob_sl e_3 e_4, th_cn e_6, th_pv e_6, th_b e_6, th_m e_6, th_s e_6, th_lk e_6, eo_4, cl_0, cl_1, cl_2, cl_4, cl_10, cl_13, cl_16]))), trivial⟩, hS.F ht⟩) hS.2.2 dX2_cls_29
  · refine lv_if_ne (tgt := 9) hx hb dX2_cls_4 (by decide) (fun c9 => absurd c9 (by decide)) (fun _ => ?_)
    refine lv_iconst (v := (-1)) hx hb dX2_cls_7 (by decide) ?_
    exact W.iret (v := (-1)) hx hb hr (fun t ht hW => ⟨⟨(-1), (), rfl, (by first | (simp only [ks_cls, cl_0, cl_1, cl_2, cl_4, cl_10, cl_13, cl_16, ↓hp_2, km4_, km1_, ↓reduceIte, and_self, and_true, true_and, and_false, false_and, or_self, or_true, true_or, or_false, false_or, not_true_eq_false, not_false_eq_true, eq_self, Int.reduceLE, Int.reduceLT, Int.reduceEq]; done) | (simp only [ks_cls, cl_0, cl_1, cl_2, cl_4, cl_10, cl_13, cl_16, ↓hp_2, km4_, km1_, ↓reduceIte, and_self, and_true, true_and, and_false, false_and, or_self, or_true, true_or, or_false, false_or, not_true_eq_false, not_false_eq_true, eq_self, Int.reduceLE, Int.reduceLT, Int.reduceEq] <;> (repeat' split) <;> first | with_reducible rfl | with_reducible assumption | rfl | (exfalso; omega) | trivial | assumption) | (simp only [ks_cls, cl_0, cl_1, cl_2, cl_4, cl_10, cl_13, cl_16]; done) | (simp only [ks_cls, cl_0, cl_1, cl_2, cl_4, cl_10, cl_13, cl_16] <;> (repeat' split) <;> first | rfl | (exfalso; omega) | contradiction | (simp only [ks_cls, cl_0, cl_1, cl_2, cl_4, cl_10, cl_13, cl_16]; done) | (simp_all; done) | (simp_all; simp only [ks_cls, cl_0, cl_1, cl_2, cl_4, cl_10, cl_13, cl_16]))), trivial⟩, hS.F ht⟩) hS.2.2 dX2_cls_8
set_option maxRecDepth 20000 in
theorem in_u_X2_is_X2 : ∀ w ∈ u_ws RX2 TX2 9, w ∈ wsX2_is := by decide +kernel
set_option maxRecDepth 100000 in
set_option maxHeartbeats 4000000 in
theorem u_X2_is (l : Launch) (dC : Nat → ClassId) (dI : Nat → Nat → Nat) (TT : Nat × Nat × Nat) (sz : Nat) (kT kI kJ : ClassId) (K : Nat → Nat) (L : List Nat) (f : Nat → va_E) (hPI : PI kT kI kJ K L f) (h0 : Nat) (hh0 : isr K L 2 h0) (p0 : Int32) (p1 : Int32) : Met l yX2_is wsX2_is ({ frames := 1, cells := 0, slots := 0, locals := 21 } : Room) (va_Pc [.ref h0, .int p0, .int p1] (pr dC dI (va_pl L f) [] [(kT, .object RX1), (kI, .int), (kJ, .long)] sz TT)) (va_Qi (fun (r : Int32) (u : Unit) => r = ks_is (g_sl f h0) (g_cn f) p0 p1) (fun _ _ => True) (va_A [] sz)) 0 0 (va_A [] sz) := by
  refine Met.ofW (cc := cX2_is) (maxL := 4) (ret := (some .int)) (by decide) rfl ?_
  intro p e s m args below meth c s₁ B hml hv
  obtain ⟨rfl, hsz, hP, hK, hD0, hst⟩ := hv
  have hx := B.exec
  have hb := B.bytes
  have hr := B.returns
  have hts := atoms_spec (ws := wsX2_is) B.pre
  have hown : s.vm.findClass RX2 = some m.cls := findClass_of_methodNamed B.named
  have hlocks := B.notSynchronized
  have iX2_ := in_u_X2_is_X2
  subst hsz
  have hD := hD0.self (sz := s.heap.size)
  generalize hAe : va_A [] s.heap.size = A at hD hst ⊢
  have hA : ∀ q : Nat, s.heap.size ≤ q → A q := fun q h => by rw [← hAe]; exact Or.inr h
  have hS : va_S A s.heap s.heap [] := va_S.rf
  have hl := lv_entry ([.ref h0, .int p0, .int p1]) (n := 4) (Nat.le_of_ble_eq_true rfl)
  rw [lg_entry_eq]
  generalize (lg_sl ([.ref h0, .int p0, .int p1]) ++ List.replicate (4 - (lg_sl ([.ref h0, .int p0, .int p1])).length) Slot.unset).toArray = ls at hl ⊢
  have hl : lv_has ls 4 [(0, .ref h0), (1, .int p0), (2, .int p1)] := hl
  have km1_ : Int32.toInt (-1) = -1 := by decide
  have k0_ : Int32.toInt 0 = 0 := by decide
  have k1_ : Int32.toInt 1 = 1 := by decide
  have k5_ : Int32.toInt 5 = 5 := by decide
  refine lv_iload_n hx hb dX2_is_0 rfl (lv_at hl 1 rfl) ?_
  refine va_calli (va_runS (As := [.int p0]) (rest := []) ⟨hx, hb, hml, hown, hts⟩ (c_X2_isSlot l dC dI TT s.heap.size p0) (va_cwS 1 hts gX2_is_X2_isSlot rfl rfl rfl (by decide +kernel) ⟨Nat.le_of_ble_eq_true rfl, Nat.le_of_ble_eq_true rfl⟩) (pr_S (ws := []) (wA := []) (tys := []) vp_nil (hK.sub [] rfl) vd_nil hst hS (ro_free hS hA)) rfl rfl hl.1 rfl (lv_room (Nat.le_of_ble_eq_true rfl)) dX2_is_1 ⟨Nat.le_of_ble_eq_true rfl, Nat.le_of_ble_eq_true rfl⟩) hS (fun q _ h => (ro_free hS hA) q h) (ro_free hS hA) (fun r_1 u t H1 locs ht hvm hw hB hz1 hk1 hS => ?_)
  have hP := ro_keep hP hk1
  generalize H1 = H at hP hS ⊢
  rcases hw with ⟨rfl, hp_2⟩ | ⟨rfl, hp_2⟩
  · refine lv_if_eq (tgt := 16) hx hb dX2_is_4 (by decide) (fun c9 => absurd c9 (by decide)) (fun _ => ?_)
    refine lv_iload_n hx hb dX2_is_7 rfl (lv_at hl 2 rfl) ?_
    refine lv_if_lt (tgt := 16) hx hb dX2_is_8 (by decide) (fun c_3 => ?_) (fun c_3 => ?_)
    · have c_3 := Int32.lt_iff_toInt_lt.mp c_3
      refine lv_iconst (v := (-1)) hx hb dX2_is_16 (by decide) ?_
      exact W.iret (v := (-1)) hx hb hr (fun t ht hW => ⟨⟨(-1), (), rfl, (by first | ((try simp only [km1_, k0_, k1_, k5_] at c_3); simp only [ks_is, cl_0, cl_1, cl_2, cl_4, cl_10, cl_13, cl_16, ↓hp_2, c_3, km1_, k0_, k1_, k5_, ↓reduceIte, and_self, and_true, true_and, and_false, false_and, or_self, or_true, true_or, or_false, false_or, not_true_eq_false, not_false_eq_true, eq_self, Int.reduceLE, Int.reduceLT, Int.reduceEq]; done) | ((try simp only [km1_, k0_, k1_, k5_] at c_3); (try simp only [c_3, km1_, k0_, k1_, k5_, ↓reduceIte, and_self, and_true, true_and, and_false, false_and, or_self, or_true, true_or, or_false, false_or, not_true_eq_false, not_false_eq_true, eq_self, Int.reduceLE, Int.reduceLT, Int.reduceEq, Classical.not_not] at hp_2); simp only [ks_is, cl_0, cl_1, cl_2, cl_4, cl_10, cl_13, cl_16, hp_2, c_3, km1_, k0_, k1_, k5_, ↓reduceIte, and_self, and_true, true_and, and_false, false_and, or_self, or_true, true_or, or_false, false_or, not_true_eq_false, not_false_eq_true, eq_self, Int.reduceLE, Int.reduceLT, Int.reduceEq]; done) | ((try simp only [km1_, k0_, k1_, k5_] at c_3); simp only [ks_is, cl_0, cl_1, cl_2, cl_4, cl_10, cl_13, cl_16, ↓hp_2, c_3, km1_, k0_, k1_, k5_, ↓reduceIte, and_self, and_true, true_and, and_false, false_and, or_self, or_true, true_or, or_false, false_or, not_true_eq_false, not_false_eq_true, eq_self, Int.reduceLE, Int.reduceLT, Int.reduceEq] <;> (repeat' split) <;> first | with_reducible rfl | with_reducible assumption | rfl | (exfalso; omega) | trivial | assumption) | ((try simp only [km1_, k0_, k1_, k5_] at c_3); (try simp only [c_3, km1_, k0_, k1_, k5_, ↓reduceIte, and_self, and_true, true_and, and_false, false_and, or_self, or_true, true_or, or_false, false_or, not_true_eq_false, not_false_eq_true, eq_self, Int.reduceLE, Int.reduceLT, Int.reduceEq, Classical.not_not] at hp_2); simp only [ks_is, cl_0, cl_1, cl_2, cl_4, cl_10, cl_13, cl_16, hp_2, c_3, km1_, k0_, k1_, k5_, ↓reduceIte, and_self, and_true, true_and, and_false, false_and, or_self, or_true, true_or, or_false, false_or, not_true_eq_false, not_false_eq_true, eq_self, Int.reduceLE, Int.reduceLT, Int.reduceEq] <;> (repeat' split) <;> first | with_reducible rfl | with_reducible assumption | rfl | (exfalso; omega) | trivial | assumption) | (simp only [ks_is, cl_0, cl_1, cl_2, cl_4, cl_10, cl_13, cl_16]; done) | (simp only [ks_is, cl_0, cl_1, cl_2, cl_4, cl_10, cl_13, cl_16] <;> (repeat' split) <;> first | rfl | (exfalso; omega) | contradiction | (simp only [ks_is, cl_0, cl_1, cl_2, cl_4, cl_10, cl_13, cl_16]; done) | (simp_all; done) | (simp_all; simp only [ks_is, cl_0, cl_1, cl_2, cl_4, cl_10, cl_13, cl_16]))), trivial⟩, hS.F ht⟩) hS.2.2 dX2_is_17
    · have c_3 := mt Int32.lt_iff_toInt_lt.mpr c_3
      refine lv_iload_n hx hb dX2_is_11 rfl (lv_at hl 2 rfl) ?_
      refine lv_iconst (v := 5) hx hb dX2_is_12 (by decide) ?_
      refine lv_icmp_le (tgt := 18) hx hb dX2_is_13 (by decide) (fun c_4 => ?_) (fun c_4 => ?_)
      · have c_4 := Int32.le_iff_toInt_le.mp c_4
        refine lv_aload_n hx hb dX2_is_18 rfl (lv_at hl 0 rfl) ?_
        obtain ⟨q1_5, pc_5, c1_5, c2_5, c3_5, q5_5, fc_5, q7_5, mc_5, e_5, fq1_5, fc1_5, fc2_5, fc3_5, fq5_5, ffc_5, fq7_5, fmc_5⟩ := hPI.a2 hh0
        obtain ⟨k_5, hk_5⟩ := va_plg hh0.1 e_5
        refine va_get (D := (dC, dI)) (ci := 2) (v := .ref q1_5) (C := RX2) (T := TX2) (N := 9) hx hb hts iX2_ hown hK hP k_5 hk_5 rfl 0 (by decide) (hts (.fieldLink RX2 11 "FieldLeaves" "slots" "[LFieldLeaves$Thing;") (by decide +kernel)) (fun _ h9 => h9) rfl dX2_is_19 ?_
        refine lv_iload_n hx hb dX2_is_22 rfl (lv_at hl 1 rfl) ?_
        obtain ⟨g_6, e_6, fg_6⟩ := hPI.a5 fq1_5
        obtain ⟨k_6, hk_6⟩ := va_plg fq1_5.1 e_6
        have h_6 : vp_in p0 12 := (vp_in_iff.mpr (by constructor <;> omega))
        refine va_aldq hx hb hK hP k_6 0 hk_6 rfl h_6 dX2_is_23 ?_
        have fo_6 := fg_6 _ (vp_lt h_6)
        generalize eo_6 : g_6 (Int32.toNatClampNeg p0) = o_6 at fo_6 ⊢
        rcases o_6 with _ | y_7
        · refine W.eq (g2 := F0 m 24 ls [.null]) rfl ?_
          refine lv_astore_nN (lv' := [(3, .null), (0, .ref h0), (1, .int p0), (2, .int p1)]) hx hb dX2_is_24 rfl hl (by decide) rfl (fun ls hl => ?_)
          refine lv_aload_nN hx hb dX2_is_25 rfl (lv_at hl 0 rfl) ?_
          refine lv_ifnullN (tgt := 41) hx hb dX2_is_26 (by decide) ?_
          refine lv_iconst (v := 0) hx hb dX2_is_41 (by decide) ?_
          exact W.iret (v := 0) hx hb hr (fun t ht hW => ⟨⟨0, (), rfl, (by first | ((try simp only [km1_, k0_, k1_, k5_] at c_3 c_4); simp only [ks_is, ob_q1 e_5, ob_pc e_5, ob_c1 e_5, ob_c2 e_5, ob_c3 e_5, ob_q5 e_5, ob_fc e_5, ob_q7 e_5, ob_mc e_5, ob_sl e_5 e_6, eo_6, cl_0, cl_1, cl_2, cl_4, cl_10, cl_13, cl_16, ↓hp_2, c_3, c_4, km1_, k0_, k1_, k5_, ↓reduceIte, and_self, and_true, true_and, and_false, false_and, or_self, or_true, true_or, or_false, false_or, not_true_eq_false, not_false_eq_true, eq_self, Int.reduceLE, Int.reduceLT, Int.reduceEq]; done) | ((try simp only [km1_, k0_, k1_, k5_] at c_3 c_4); (try simp only [c_3, c_4, km1_, k0_, k1_, k5_, ↓reduceIte, and_self, and_true, true_and, and_false, false_and, or_self, or_true, true_or, or_false, false_or, not_true_eq_false, not_false_eq_true, eq_self, Int.reduceLE, Int.reduceLT, Int.reduceEq, Classical.not_not] at hp_2); simp only [ks_is, ob_q1 e_5, ob_pc e_5, ob_c1 e_5, ob_c2 e_5, ob_c3 e_5, ob_q5 e_5, ob_fc e_5, ob_q7 e_5, ob_mc e_5, ob_sl e_5 e_6, eo_6, cl_0, cl_1, cl_2, cl_4, cl_10, cl_13, cl_16, hp_2, c_3, c_4, km1_, k0_, k1_, k5_, ↓reduceIte, and_self, and_true, true_and, and_false, false_and, or_self, or_true, true_or, or_false, false_or, not_true_eq_false, not_false_eq_true, eq_self, Int.reduceLE, Int.reduceLT, Int.reduceEq]; done) | exact absurd c_3 c_4 | exact absurd c_4 c_3 | ((try simp only [km1_, k0_, k1_, k5_] at c_3 c_4); simp only [ks_is, ob_q1 e_5, ob_pc e_5, ob_c1 e_5, ob_c2 e_5, ob_c3 e_5, ob_q5 e_5, ob_fc e_5, ob_q7 e_5, ob_mc e_5, ob_sl e_5 e_6, eo_6, cl_0, cl_1, cl_2, cl_4, cl_10, cl_13, cl_16, ↓hp_2, c_3, c_4, km1_, k0_, k1_, k5_, ↓reduceIte, and_self, and_true, true_and, and_false, false_and, or_self, or_true, true_or, or_false, false_or, not_true_eq_false, not_false_eq_true, eq_self, Int.reduceLE, Int.reduceLT, Int.reduceEq] <;> (repeat' split) <;> first | with_reducible rfl | with_reducible assumption | rfl | (exfalso; omega) | trivial | assumption) | ((try simp only [km1_, k0_, k1_, k5_] at c_3 c_4); (try simp only [c_3, c_4, km1_, k0_, k1_, k5_, ↓reduceIte, and_self, and_true, true_and, and_false, false_and, or_self, or_true, true_or, or_false, false_or, not_true_eq_false, not_false_eq_true, eq_self, Int.reduceLE, Int.reduceLT, Int.reduceEq, Classical.not_not] at hp_2); simp only [ks_is, ob_q1 e_5, ob_pc e_5, ob_c1 e_5, ob_c2 e_5, ob_c3 e_5, ob_q5 e_5, ob_fc e_5, ob_q7 e_5, ob_mc e_5, ob_sl e_5 e_6, eo_6, cl_0, cl_1, cl_2, cl_4, cl_10, cl_13, cl_16, hp_2, c_3, c_4, km1_, k0_, k1_, k5_, ↓reduceIte, and_self, and_true, true_and, and_false, false_and, or_self, or_true, true_or, or_false, false_or, not_true_eq_false, not_false_eq_true, eq_self, Int.reduceLE, Int.reduceLT, Int.reduceEq] <;> (repeat' split) <;> first | with_reducible rfl | with_reducible assumption | rfl | (exfalso; omega) | trivial | assumption) | (simp only [ks_is, ob_q1 e_5, ob_pc e_5, ob_c1 e_5, ob_c2 e_5, ob_c3 e_5, ob_q5 e_5, ob_fc e_5, ob_q7 e_5, ob_mc e_5, ob_sl e_5 e_6, eo_6, cl_0, cl_1, cl_2, cl_4, cl_10, cl_13, cl_16]; done) | (simp only [ks_is, ob_q1 e_5, ob_pc e_5, ob_c1 e_5, ob_c2 e_5, ob_c3 e_5, ob_q5 e_5, ob_fc e_5, ob_q7 e_5, ob_mc e_5, ob_sl e_5 e_6, eo_6, cl_0, cl_1, cl_2, cl_4, cl_10, cl_13, cl_16] <;> (repeat' split) <;> first | rfl | (exfalso; omega) | contradiction | (simp only [ks_is, ob_q1 e_5, ob_pc e_5, ob_c1 e_5, ob_c2 e_5, ob_c3 e_5, ob_q5 e_5, ob_fc e_5, ob_q7 e_5, ob_mc e_5, ob_sl e_5 e_6, eo_6, cl_0, cl_1, cl_2, cl_4, cl_10, cl_13, cl_16]; done) | (simp_all; done) | (simp_all; simp only [ks_is, ob_q1 e_5, ob_pc e_5, ob_c1 e_5, ob_c2 e_5, ob_c3 e_5, ob_q5 e_5, ob_fc e_5, ob_q7 e_5, ob_mc e_5, ob_sl e_5 e_6, eo_6, cl_0, cl_1, cl_2, cl_4, cl_10, cl_13, cl_16]))), trivial⟩, hS.F ht⟩) hS.2.2 dX2_is_42
        · have fy_7 := fo_6 y_7 rfl
          refine W.eq (g2 := F0 m 24 ls [.ref y_7]) rfl ?_
          refine lv_astore_n (lv' := [(3, .ref y_7), (0, .ref h0), (1, .int p0), (2, .int p1)]) hx hb dX2_is_24 rfl hl (by decide) rfl (fun ls hl => ?_)
          refine lv_aload_n hx hb dX2_is_25 rfl (lv_at hl 0 rfl) ?_
          refine lv_ifnull hx hb dX2_is_26 ?_
          refine lv_aload_n hx hb dX2_is_29 rfl (lv_at hl 0 rfl) ?_
          refine lv_iload_n hx hb dX2_is_30 rfl (lv_at hl 3 rfl) ?_
          obtain ⟨cn_8, v_8, b_8, m_8, st_8, i_8, e_8, fv_8, fb_8, fm_8, fst_8, fi_8⟩ := hPI.a1 fy_7
          obtain ⟨k_8, hk_8⟩ := va_plg fy_7.1 e_8
          refine va_calli (va_runV (b := y_7) (As := [.int p1]) (rest := []) ⟨hx, hb, hml, hown, hts⟩ (u_X1_isOf l dC dI TT H.size kT kI kJ K L f hPI y_7 fy_7 p1) (cwV 1 hts gX2_is_X1_isOf rfl rfl rfl (by decide +kernel) ⟨Nat.le_of_ble_eq_true rfl, Nat.le_of_ble_eq_true rfl⟩) ⟨pr_blind, va_recv hK hP (ci := 1) rfl hk_8, (pr_S (ws := va_pl L f) (wA := []) (tys := [(kT, .object RX1), (kI, .int), (kJ, .long)]) hP hK vd_nil hst hS (ro_free hS hA)).2⟩ rfl rfl hl.1 rfl (lv_room (Nat.le_of_ble_eq_true rfl)) dX2_is_31 ⟨Nat.le_of_ble_eq_true rfl, Nat.le_of_ble_eq_true rfl⟩) hS (fun q _ h => (ro_free hS hA) q h) (ro_free hS hA) (fun r_9 u t H1 locs ht hvm hw hB hz1 hk1 hS => ?_)
          have hP := ro_keep hP hk1
          generalize H1 = H at hP hS ⊢
          rcases hw with ⟨rfl, hp_10⟩ | ⟨rfl, hp_10⟩
          · refine lv_if_eq (tgt := 41) hx hb dX2_is_34 (by decide) (fun c9 => absurd c9 (by decide)) (fun _ => ?_)
            refine lv_iconst (v := 1) hx hb dX2_is_37 (by decide) ?_
            refine lv_goto (tgt := 42) hx hb dX2_is_38 (by decide) ?_
            exact W.iret (v := 1) hx hb hr (fun t ht hW => ⟨⟨1, (), rfl, (by have hc2 := congrArg Int32.toInt (th_cn e_8); first | (simp only [ks_is, ob_q1 e_5, ob_pc e_5, ob_c1 e_5, ob_c2 e_5, ob_c3 e_5, ob_q5 e_5, ob_fc e_5, ob_q7 e_5, ob_mc e_5, ob_sl e_5 e_6, th_cn e_8, th_pv e_8, th_b e_8, th_m e_8, th_s e_8, th_lk e_8, eo_6, cl_0, cl_1, cl_2, cl_4, cl_10, cl_13, cl_16]; done) | (simp only [ks_is, ob_q1 e_5, ob_pc e_5, ob_c1 e_5, ob_c2 e_5, ob_c3 e_5, ob_q5 e_5, ob_fc e_5, ob_q7 e_5, ob_mc e_5, ob_sl e_5 e_6, th_cn e_8, th_pv e_8, th_b e_8, th_m e_8, th_s e_8, th_lk e_8, eo_6, cl_0, cl_1, cl_2, cl_4, cl_10, cl_13, cl_16] <;> (repeat' split) <;> first | rfl | (exfalso; omega) | contradiction | (simp only [ks_is, ob_q1 e_5, ob_pc e_5, ob_c1 e_5, ob_c2 e_5, ob_c3 e_5, ob_q5 e_5, ob_fc e_5, ob_q7 e_5, ob_mc e_5, ob_sl e_5 e_6, th_cn e_8, th_pv e_8, th_b e_8, th_m e_8, th_s e_8, th_lk e_8, eo_6, cl_0, cl_1, cl_2, cl_4, cl_10, cl_13, cl_16]; done) | (simp_all; done) | (simp_all; simp only [ks_is, ob_q1 e_5, ob_pc e_5, ob_c1 e_5, ob_c2 e_5, ob_c3 e_5, ob_q5 e_5, ob_fc e_5, ob_q7 e_5, ob_mc e_5, ob_sl e_5 e_6, th_cn e_8, th_pv e_8, th_b e_8, th_m e_8, th_s e_8, th_lk e_8, eo_6, cl_0, cl_1, cl_2, cl_4, cl_10, cl_13, cl_16]))), trivial⟩, hS.F ht⟩) hS.2.2 dX2_is_42
          · refine lv_if_eq (tgt := 41) hx hb dX2_is_34 (by decide) (fun _ => ?_) (fun c9 => absurd c9 (by decide))
            refine lv_iconst (v := 0) hx hb dX2_is_41 (by decide) ?_
            exact W.iret (v := 0) hx hb hr (fun t ht hW => ⟨⟨0, (), rfl, (by have hc2 := congrArg Int32.toInt (th_cn e_8); first | (simp only [ks_is, ob_q1 e_5, ob_pc e_5, ob_c1 e_5, ob_c2 e_5, ob_c3 e_5, ob_q5 e_5, ob_fc e_5, ob_q7 e_5, ob_mc e_5, ob_sl e_5 e_6, th_cn e_8, th_pv e_8, th_b e_8, th_m e_8, th_s e_8, th_lk e_8, eo_6, cl_0, cl_1, cl_2, cl_4, cl_10, cl_13, cl_16]; done) | (simp only [ks_is, ob_q1 e_5, ob_pc e_5, ob_c1 e_5, ob_c2 e_5, ob_c3 e_5, ob_q5 e_5, ob_fc e_5, ob_q7 e_5, ob_mc e_5, ob_sl e_5 e_6, th_cn e_8, th_pv e_8, th_b e_8, th_m e_8, th_s e_8, th_lk e_8, eo_6, cl_0, cl_1, cl_2, cl_4, cl_10, cl_13, cl_16] <;> (repeat' split) <;> first | rfl | (exfalso; omega) | contradiction | (simp only [ks_is, ob_q1 e_5, ob_pc e_5, ob_c1 e_5, ob_c2 e_5, ob_c3 e_5, ob_q5 e_5, ob_fc e_5, ob_q7 e_5, ob_mc e_5, ob_sl e_5 e_6, th_cn e_8, th_pv e_8, th_b e_8, th_m e_8, th_s e_8, th_lk e_8, eo_6, cl_0, cl_1, cl_2, cl_4, cl_10, cl_13, cl_16]; done) | (simp_all; done) | (simp_all; simp only [ks_is, ob_q1 e_5, ob_pc e_5, ob_c1 e_5, ob_c2 e_5, ob_c3 e_5, ob_q5 e_5, ob_fc e_5, ob_q7 e_5, ob_mc e_5, ob_sl e_5 e_6, th_cn e_8, th_pv e_8, th_b e_8, th_m e_8, th_s e_8, th_lk e_8, eo_6, cl_0, cl_1, cl_2, cl_4, cl_10, cl_13, cl_16]))), trivial⟩, hS.F ht⟩) hS.2.2 dX2_is_42
      · have c_4 := mt Int32.le_iff_toInt_le.mpr c_4
        refine lv_iconst (v := (-1)) hx hb dX2_is_16 (by decide) ?_
        exact W.iret (v := (-1)) hx hb hr (fun t ht hW => ⟨⟨(-1), (), rfl, (by first | ((try simp only [km1_, k0_, k1_, k5_] at c_3 c_4); simp only [ks_is, cl_0, cl_1, cl_2, cl_4, cl_10, cl_13, cl_16, ↓hp_2, c_3, c_4, km1_, k0_, k1_, k5_, ↓reduceIte, and_self, and_true, true_and, and_false, false_and, or_self, or_true, true_or, or_false, false_or, not_true_eq_false, not_false_eq_true, eq_self, Int.reduceLE, Int.reduceLT, Int.reduceEq]; done) | ((try simp only [km1_, k0_, k1_, k5_] at c_3 c_4); (try simp only [c_3, c_4, km1_, k0_, k1_, k5_, ↓reduceIte, and_self, and_true, true_and, and_false, false_and, or_self, or_true, true_or, or_false, false_or, not_true_eq_false, not_false_eq_true, eq_self, Int.reduceLE, Int.reduceLT, Int.reduceEq, Classical.not_not] at hp_2); simp only [ks_is, cl_0, cl_1, cl_2, cl_4, cl_10, cl_13, cl_16, hp_2, c_3, c_4, km1_, k0_, k1_, k5_, ↓reduceIte, and_self, and_true, true_and, and_false, false_and, or_self, or_true, true_or, or_false, false_or, not_true_eq_false, not_false_eq_true, eq_self, Int.reduceLE, Int.reduceLT, Int.reduceEq]; done) | exact absurd c_3 c_4 | exact absurd c_4 c_3 | ((try simp only [km1_, k0_, k1_, k5_] at c_3 c_4); simp only [ks_is, cl_0, cl_1, cl_2, cl_4, cl_10, cl_13, cl_16, ↓hp_2, c_3, c_4, km1_, k0_, k1_, k5_, ↓reduceIte, and_self, and_true, true_and, and_false, false_and, or_self, or_true, true_or, or_false, false_or, not_true_eq_false, not_false_eq_true, eq_self, Int.reduceLE, Int.reduceLT, Int.reduceEq] <;> (repeat' split) <;> first | with_reducible rfl | with_reducible assumption | rfl | (exfalso; omega) | trivial | assumption) | ((try simp only [km1_, k0_, k1_, k5_] at c_3 c_4); (try simp only [c_3, c_4, km1_, k0_, k1_, k5_, ↓reduceIte, and_self, and_true, true_and, and_false, false_and, or_self, or_true, true_or, or_false, false_or, not_true_eq_false, not_false_eq_true, eq_self, Int.reduceLE, Int.reduceLT, Int.reduceEq, Classical.not_not] at hp_2); simp only [ks_is, cl_0, cl_1, cl_2, cl_4, cl_10, cl_13, cl_16, hp_2, c_3, c_4, km1_, k0_, k1_, k5_, ↓reduceIte, and_self, and_true, true_and, and_false, false_and, or_self, or_true, true_or, or_false, false_or, not_true_eq_false, not_false_eq_true, eq_self, Int.reduceLE, Int.reduceLT, Int.reduceEq] <;> (repeat' split) <;> first | with_reducible rfl | with_reducible assumption | rfl | (exfalso; omega) | trivial | assumption) | (simp only [ks_is, cl_0, cl_1, cl_2, cl_4, cl_10, cl_13, cl_16]; done) | (simp only [ks_is, cl_0, cl_1, cl_2, cl_4, cl_10, cl_13, cl_16] <;> (repeat' split) <;> first | rfl | (exfalso; omega) | contradiction | (simp only [ks_is, cl_0, cl_1, cl_2, cl_4, cl_10, cl_13, cl_16]; done) | (simp_all; done) | (simp_all; simp only [ks_is, cl_0, cl_1, cl_2, cl_4, cl_10, cl_13, cl_16]))), trivial⟩, hS.F ht⟩) hS.2.2 dX2_is_17
  · refine lv_if_eq (tgt := 16) hx hb dX2_is_4 (by decide) (fun _ => ?_) (fun c9 => absurd c9 (by decide))
    refine lv_iconst (v := (-1)) hx hb dX2_is_16 (by decide) ?_
    exact W.iret (v := (-1)) hx hb hr (fun t ht hW => ⟨⟨(-1), (), rfl, (by first | (simp only [ks_is, cl_0, cl_1, cl_2, cl_4, cl_10, cl_13, cl_16, ↓hp_2, km1_, k0_, k1_, k5_, ↓reduceIte, and_self, and_true, true_and, and_false, false_and, or_self, or_true, true_or, or_false, false_or, not_true_eq_false, not_false_eq_true, eq_self, Int.reduceLE, Int.reduceLT, Int.reduceEq]; done) | (simp only [ks_is, cl_0, cl_1, cl_2, cl_4, cl_10, cl_13, cl_16, ↓hp_2, km1_, k0_, k1_, k5_, ↓reduceIte, and_self, and_true, true_and, and_false, false_and, or_self, or_true, true_or, or_false, false_or, not_true_eq_false, not_false_eq_true, eq_self, Int.reduceLE, Int.reduceLT, Int.reduceEq] <;> (repeat' split) <;> first | with_reducible rfl | with_reducible assumption | rfl | (exfalso; omega) | trivial | assumption) | (simp only [ks_is, cl_0, cl_1, cl_2, cl_4, cl_10, cl_13, cl_16]; done) | (simp only [ks_is, cl_0, cl_1, cl_2, cl_4, cl_10, cl_13, cl_16] <;> (repeat' split) <;> first | rfl | (exfalso; omega) | contradiction | (simp only [ks_is, cl_0, cl_1, cl_2, cl_4, cl_10, cl_13, cl_16]; done) | (simp_all; done) | (simp_all; simp only [ks_is, cl_0, cl_1, cl_2, cl_4, cl_10, cl_13, cl_16]))), trivial⟩, hS.F ht⟩) hS.2.2 dX2_is_17
set_option maxRecDepth 20000 in
theorem in_u_X2_get_X1 : ∀ w ∈ u_ws RX1 TX1 6, w ∈ wsX2_get := by decide +kernel
set_option maxRecDepth 20000 in
theorem in_u_X2_get_X2 : ∀ w ∈ u_ws RX2 TX2 9, w ∈ wsX2_get := by decide +kernel
set_option maxRecDepth 100000 in
set_option maxHeartbeats 4000000 in
theorem u_X2_get (l : Launch) (dC : Nat → ClassId) (dI : Nat → Nat → Nat) (TT : Nat × Nat × Nat) (sz : Nat) (kT kI kJ : ClassId) (K : Nat → Nat) (L : List Nat) (f : Nat → va_E) (hPI : PI kT kI kJ K L f) (h0 : Nat) (hh0 : isr K L 2 h0) (p0 : Int32) (p1 : Int32) : Met l yX2_get wsX2_get ({ frames := 2, cells := 0, slots := 0, locals := 42 } : Room) (va_Pc [.ref h0, .int p0, .int p1] (pr dC dI (va_pl L f) [] [(kT, .object RX1), (kI, .int), (kJ, .long)] sz TT)) (va_Ql (fun (r : Int64) (u : Unit) => r = ks_get (g_sl f h0) (g_cn f) (g_vl f) p0 p1) (fun _ _ => True) (va_A [] sz)) 0 0 (va_A [] sz) := by
  refine Met.ofW (cc := cX2_get) (maxL := 5) (ret := (some .long)) (by decide) rfl ?_
  intro p e s m args below meth c s₁ B hml hv
  obtain ⟨rfl, hsz, hP, hK, hD0, hst⟩ := hv
  have hx := B.exec
  have hb := B.bytes
  have hr := B.returns
  have hts := atoms_spec (ws := wsX2_get) B.pre
  have hown : s.vm.findClass RX2 = some m.cls := findClass_of_methodNamed B.named
  have hlocks := B.notSynchronized
  have iX1_ := in_u_X2_get_X1
  have iX2_ := in_u_X2_get_X2
  subst hsz
  have hD := hD0.self (sz := s.heap.size)
  generalize hAe : va_A [] s.heap.size = A at hD hst ⊢
  have hA : ∀ q : Nat, s.heap.size ≤ q → A q := fun q h => by rw [← hAe]; exact Or.inr h
  have hS : va_S A s.heap s.heap [] := va_S.rf
  have hl := lv_entry ([.ref h0, .int p0, .int p1]) (n := 5) (Nat.le_of_ble_eq_true rfl)
  rw [lg_entry_eq]
  generalize (lg_sl ([.ref h0, .int p0, .int p1]) ++ List.replicate (5 - (lg_sl ([.ref h0, .int p0, .int p1])).length) Slot.unset).toArray = ls at hl ⊢
  have hl : lv_has ls 5 [(0, .ref h0), (1, .int p0), (2, .int p1)] := hl
  have klm14_ : Int64.toInt (-14) = -14 := by decide
  have klm11_ : Int64.toInt (-11) = -11 := by decide
  have klm1_ : Int64.toInt (-1) = -1 := by decide
  refine lv_iload_n hx hb dX2_get_0 rfl (lv_at hl 1 rfl) ?_
  refine va_calli (va_runS (As := [.int p0]) (rest := []) ⟨hx, hb, hml, hown, hts⟩ (c_X2_isSlot l dC dI TT s.heap.size p0) (va_cwS 1 hts gX2_get_X2_isSlot rfl rfl rfl (by decide +kernel) ⟨Nat.le_of_ble_eq_true rfl, Nat.le_of_ble_eq_true rfl⟩) (pr_S (ws := []) (wA := []) (tys := []) vp_nil (hK.sub [] rfl) vd_nil hst hS (ro_free hS hA)) rfl rfl hl.1 rfl (lv_room (Nat.le_of_ble_eq_true rfl)) dX2_get_1 ⟨Nat.le_of_ble_eq_true rfl, Nat.le_of_ble_eq_true rfl⟩) hS (fun q _ h => (ro_free hS hA) q h) (ro_free hS hA) (fun r_1 u t H1 locs ht hvm hw hB hz1 hk1 hS => ?_)
  have hP := ro_keep hP hk1
  generalize H1 = H at hP hS ⊢
  rcases hw with ⟨rfl, hp_2⟩ | ⟨rfl, hp_2⟩
  · refine lv_if_eq (tgt := 14) hx hb dX2_get_4 (by decide) (fun c9 => absurd c9 (by decide)) (fun _ => ?_)
    refine lv_iload_n hx hb dX2_get_7 rfl (lv_at hl 2 rfl) ?_
    refine va_calli (va_runS (As := [.int p1]) (rest := []) ⟨hx, hb, hml, hown, hts⟩ (c_X2_isValueField l dC dI TT H.size p1) (va_cwS 1 hts gX2_get_X2_isValueField rfl rfl rfl (by decide +kernel) ⟨Nat.le_of_ble_eq_true rfl, Nat.le_of_ble_eq_true rfl⟩) (pr_S (ws := []) (wA := []) (tys := []) vp_nil (hK.sub [] rfl) vd_nil hst hS (ro_free hS hA)) rfl rfl hl.1 rfl (lv_room (Nat.le_of_ble_eq_true rfl)) dX2_get_8 ⟨Nat.le_of_ble_eq_true rfl, Nat.le_of_ble_eq_true rfl⟩) hS (fun q _ h => (ro_free hS hA) q h) (ro_free hS hA) (fun r_3 u t H1 locs ht hvm hw hB hz1 hk1 hS => ?_)
    have hP := ro_keep hP hk1
    generalize H1 = H at hP hS ⊢
    rcases hw with ⟨rfl, hp_4⟩ | ⟨rfl, hp_4⟩
    · refine lv_if_ne (tgt := 18) hx hb dX2_get_11 (by decide) (fun _ => ?_) (fun c9 => absurd c9 (by decide))
      refine lv_aload_n hx hb dX2_get_18 rfl (lv_at hl 0 rfl) ?_
      obtain ⟨q1_5, pc_5, c1_5, c2_5, c3_5, q5_5, fc_5, q7_5, mc_5, e_5, fq1_5, fc1_5, fc2_5, fc3_5, fq5_5, ffc_5, fq7_5, fmc_5⟩ := hPI.a2 hh0
      obtain ⟨k_5, hk_5⟩ := va_plg hh0.1 e_5
      refine va_get (D := (dC, dI)) (ci := 2) (v := .ref q1_5) (C := RX2) (T := TX2) (N := 9) hx hb hts iX2_ hown hK hP k_5 hk_5 rfl 0 (by decide) (hts (.fieldLink RX2 11 "FieldLeaves" "slots" "[LFieldLeaves$Thing;") (by decide +kernel)) (fun _ h9 => h9) rfl dX2_get_19 ?_
      refine lv_iload_n hx hb dX2_get_22 rfl (lv_at hl 1 rfl) ?_
      obtain ⟨g_6, e_6, fg_6⟩ := hPI.a5 fq1_5
      obtain ⟨k_6, hk_6⟩ := va_plg fq1_5.1 e_6
      have h_6 : vp_in p0 12 := (vp_in_iff.mpr (by constructor <;> omega))
      refine va_aldq hx hb hK hP k_6 0 hk_6 rfl h_6 dX2_get_23 ?_
      have fo_6 := fg_6 _ (vp_lt h_6)
      generalize eo_6 : g_6 (Int32.toNatClampNeg p0) = o_6 at fo_6 ⊢
      rcases o_6 with _ | y_7
      · refine W.eq (g2 := F0 m 24 ls [.null]) rfl ?_
        refine lv_astore_nN (lv' := [(3, .null), (0, .ref h0), (1, .int p0), (2, .int p1)]) hx hb dX2_get_24 rfl hl (by decide) rfl (fun ls hl => ?_)
        refine lv_aload_nN hx hb dX2_get_25 rfl (lv_at hl 0 rfl) ?_
        refine va_gets (v := .ref TT.2.1) hx hb hst.zO hS hown (hts (.fieldLink RX2 57 "FieldLeaves" "OWNER" "[I") (by decide +kernel)) (fun _ h9 => h9) dX2_get_26 ?_
        refine lv_iload_n hx hb dX2_get_29 rfl (lv_at hl 3 rfl) ?_
        have h_8 : vp_in p1 17 := (vp_in_iff.mpr (by constructor <;> omega))
        refine va_ti hx hb hst.tO hS h_8 (v := .int (OWNERt (Int32.toNatClampNeg p1))) rfl dX2_get_30 ?_
        have fh_8 := OWNERt_is h_8
        refine va_calli (va_runS (As := [.null, .int (OWNERt (Int32.toNatClampNeg p1))]) (rest := []) ⟨hx, hb, hml, hown, hts⟩ (c_X2_failureAs_null l dC dI TT H.size (OWNERt (Int32.toNatClampNeg p1))) (va_cwS 2 hts gX2_get_X2_failureAs rfl rfl rfl (by decide +kernel) ⟨Nat.le_of_ble_eq_true rfl, Nat.le_of_ble_eq_true rfl⟩) (pr_S (ws := []) (wA := []) (tys := []) vp_nil (hK.sub [] rfl) vd_nil hst hS (ro_free hS hA)) rfl rfl hl.1 rfl (lv_room (Nat.le_of_ble_eq_true rfl)) dX2_get_31 ⟨Nat.le_of_ble_eq_true rfl, Nat.le_of_ble_eq_true rfl⟩) hS (fun q _ h => (ro_free hS hA) q h) (ro_free hS hA) (fun r_9 u t H1 locs ht hvm hw hB hz1 hk1 hS => ?_)
        have hP := ro_keep hP hk1
        generalize H1 = H at hP hS ⊢
        subst hw
        refine lv_istore (lv' := [(4, .int (-11)), (3, .null), (0, .ref h0), (1, .int p0), (2, .int p1)]) hx hb dX2_get_34 hl (by decide) rfl (fun ls hl => ?_)
        refine lv_iload hx hb dX2_get_36 (lv_at hl 0 rfl) ?_
        refine lv_if_eq (tgt := 47) hx hb dX2_get_38 (by decide) (fun c9 => absurd c9 (by decide)) (fun _ => ?_)
        refine lv_iload hx hb dX2_get_41 (lv_at hl 0 rfl) ?_
        refine lv_i2l (v := (-11)) hx hb dX2_get_43 (by decide) ?_
        refine lv_goto (tgt := 53) hx hb dX2_get_44 (by decide) ?_
        exact W.lret (v := (-11)) hx hb hr (fun t ht hW => ⟨⟨(-11), (), rfl, (by first | (simp only [ks_get, ob_q1 e_5, ob_pc e_5, ob_c1 e_5, ob_c2 e_5, ob_c3 e_5, ob_q5 e_5, ob_fc e_5, ob_q7 e_5, ob_mc e_5, ob_sl e_5 e_6, eo_6, cl_0, cl_1, cl_2, cl_4, cl_10, cl_13, cl_16, ↓hp_2, ↓hp_4, ↓reduceIte, and_self, and_true, true_and, and_false, false_and, or_self, or_true, true_or, or_false, false_or, not_true_eq_false, not_false_eq_true, eq_self, Int.reduceLE, Int.reduceLT, Int.reduceEq]; done) | (simp only [ks_get, ob_q1 e_5, ob_pc e_5, ob_c1 e_5, ob_c2 e_5, ob_c3 e_5, ob_q5 e_5, ob_fc e_5, ob_q7 e_5, ob_mc e_5, ob_sl e_5 e_6, eo_6, cl_0, cl_1, cl_2, cl_4, cl_10, cl_13, cl_16, ↓hp_2, ↓hp_4, ↓reduceIte, and_self, and_true, true_and, and_false, false_and, or_self, or_true, true_or, or_false, false_or, not_true_eq_false, not_false_eq_true, eq_self, Int.reduceLE, Int.reduceLT, Int.reduceEq] <;> (repeat' split) <;> first | with_reducible rfl | with_reducible assumption | rfl | (exfalso; omega) | trivial | assumption) | (simp only [ks_get, ob_q1 e_5, ob_pc e_5, ob_c1 e_5, ob_c2 e_5, ob_c3 e_5, ob_q5 e_5, ob_fc e_5, ob_q7 e_5, ob_mc e_5, ob_sl e_5 e_6, eo_6, cl_0, cl_1, cl_2, cl_4, cl_10, cl_13, cl_16]; done) | (simp only [ks_get, ob_q1 e_5, ob_pc e_5, ob_c1 e_5, ob_c2 e_5, ob_c3 e_5, ob_q5 e_5, ob_fc e_5, ob_q7 e_5, ob_mc e_5, ob_sl e_5 e_6, eo_6, cl_0, cl_1, cl_2, cl_4, cl_10, cl_13, cl_16] <;> (repeat' split) <;> first | rfl | (exfalso; omega) | contradiction | (simp only [ks_get, ob_q1 e_5, ob_pc e_5, ob_c1 e_5, ob_c2 e_5, ob_c3 e_5, ob_q5 e_5, ob_fc e_5, ob_q7 e_5, ob_mc e_5, ob_sl e_5 e_6, eo_6, cl_0, cl_1, cl_2, cl_4, cl_10, cl_13, cl_16]; done) | (simp_all; done) | (simp_all; simp only [ks_get, ob_q1 e_5, ob_pc e_5, ob_c1 e_5, ob_c2 e_5, ob_c3 e_5, ob_q5 e_5, ob_fc e_5, ob_q7 e_5, ob_mc e_5, ob_sl e_5 e_6, eo_6, cl_0, cl_1, cl_2, cl_4, cl_10, cl_13, cl_16]))), trivial⟩, hS.F ht⟩) hS.2.2 dX2_get_53
      · have fy_7 := fo_6 y_7 rfl
        refine W.eq (g2 := F0 m 24 ls [.ref y_7]) rfl ?_
        refine lv_astore_n (lv' := [(3, .ref y_7), (0, .ref h0), (1, .int p0), (2, .int p1)]) hx hb dX2_get_24 rfl hl (by decide) rfl (fun ls hl => ?_)
        refine lv_aload_n hx hb dX2_get_25 rfl (lv_at hl 0 rfl) ?_
        refine va_gets (v := .ref TT.2.1) hx hb hst.zO hS hown (hts (.fieldLink RX2 57 "FieldLeaves" "OWNER" "[I") (by decide +kernel)) (fun _ h9 => h9) dX2_get_26 ?_
        refine lv_iload_n hx hb dX2_get_29 rfl (lv_at hl 3 rfl) ?_
        have h_10 : vp_in p1 17 := (vp_in_iff.mpr (by constructor <;> omega))
        refine va_ti hx hb hst.tO hS h_10 (v := .int (OWNERt (Int32.toNatClampNeg p1))) rfl dX2_get_30 ?_
        have fh_10 := OWNERt_is h_10
        refine va_calli (va_runS (As := [.ref y_7, .int (OWNERt (Int32.toNatClampNeg p1))]) (rest := []) ⟨hx, hb, hml, hown, hts⟩ (u_X2_failureAs l dC dI TT H.size kT kI kJ K L f hPI y_7 fy_7 (OWNERt (Int32.toNatClampNeg p1))) (va_cwS 2 hts gX2_get_X2_failureAs rfl rfl rfl (by decide +kernel) ⟨Nat.le_of_ble_eq_true rfl, Nat.le_of_ble_eq_true rfl⟩) (pr_S (ws := va_pl L f) (wA := []) (tys := [(kT, .object RX1), (kI, .int), (kJ, .long)]) hP hK vd_nil hst hS (ro_free hS hA)) rfl rfl hl.1 rfl (lv_room (Nat.le_of_ble_eq_true rfl)) dX2_get_31 ⟨Nat.le_of_ble_eq_true rfl, Nat.le_of_ble_eq_true rfl⟩) hS (fun q _ h => (ro_free hS hA) q h) (ro_free hS hA) (fun r_11 u t H1 locs ht hvm hw hB hz1 hk1 hS => ?_)
        have hP := ro_keep hP hk1
        generalize H1 = H at hP hS ⊢
        rcases hw with ⟨rfl, hp_12⟩ | ⟨rfl, hp_12⟩
        · refine lv_istore (lv' := [(4, .int 0), (3, .ref y_7), (0, .ref h0), (1, .int p0), (2, .int p1)]) hx hb dX2_get_34 hl (by decide) rfl (fun ls hl => ?_)
          refine lv_iload hx hb dX2_get_36 (lv_at hl 0 rfl) ?_
          refine lv_if_eq (tgt := 47) hx hb dX2_get_38 (by decide) (fun _ => ?_) (fun c9 => absurd c9 (by decide))
          refine lv_aload_n hx hb dX2_get_47 rfl (lv_at hl 1 rfl) ?_
          obtain ⟨cn_13, v_13, b_13, m_13, st_13, i_13, e_13, fv_13, fb_13, fm_13, fst_13, fi_13⟩ := hPI.a1 fy_7
          obtain ⟨k_13, hk_13⟩ := va_plg fy_7.1 e_13
          refine va_get (D := (dC, dI)) (ci := 1) (v := .ref v_13) (C := RX1) (T := TX1) (N := 6) hx hb hts iX1_ hown hK hP k_13 hk_13 rfl 1 (by decide) (hts (.fieldLink RX2 65 "FieldLeaves$Thing" "values" "[J") (by decide +kernel)) (fun _ h9 => h9) rfl dX2_get_48 ?_
          refine lv_iload_n hx hb dX2_get_51 rfl (lv_at hl 4 rfl) ?_
          obtain ⟨g_14, e_14⟩ := hPI.a3 fv_13
          obtain ⟨k_14, hk_14⟩ := va_plg fv_13.1 e_14
          have h_14 : vp_in p1 17 := (vp_in_iff.mpr (by constructor <;> omega))
          refine va_lald hx hb hK hP k_14 2 hk_14 rfl h_14 dX2_get_52 ?_
          refine lv_topl (fun z_14 ez_14 => ?_)
          exact W.lret (v := z_14) hx hb hr (fun t ht hW => ⟨⟨z_14, (), rfl, (by have hc2 := congrArg Int32.toInt (th_cn e_13); first | (simp only [ks_get, ob_q1 e_5, ob_pc e_5, ob_c1 e_5, ob_c2 e_5, ob_c3 e_5, ob_q5 e_5, ob_fc e_5, ob_q7 e_5, ob_mc e_5, ob_sl e_5 e_6, th_cn e_13, th_pv e_13, th_b e_13, th_m e_13, th_s e_13, th_lk e_13, th_vl e_13 e_14, eo_6, ez_14, cl_0, cl_1, cl_2, cl_4, cl_10, cl_13, cl_16]; done) | (simp only [ks_get, ob_q1 e_5, ob_pc e_5, ob_c1 e_5, ob_c2 e_5, ob_c3 e_5, ob_q5 e_5, ob_fc e_5, ob_q7 e_5, ob_mc e_5, ob_sl e_5 e_6, th_cn e_13, th_pv e_13, th_b e_13, th_m e_13, th_s e_13, th_lk e_13, th_vl e_13 e_14, eo_6, ez_14, cl_0, cl_1, cl_2, cl_4, cl_10, cl_13, cl_16] <;> (repeat' split) <;> first | rfl | (exfalso; omega) | contradiction | (simp only [ks_get, ob_q1 e_5, ob_pc e_5, ob_c1 e_5, ob_c2 e_5, ob_c3 e_5, ob_q5 e_5, ob_fc e_5, ob_q7 e_5, ob_mc e_5, ob_sl e_5 e_6, th_cn e_13, th_pv e_13, th_b e_13, th_m e_13, th_s e_13, th_lk e_13, th_vl e_13 e_14, eo_6, ez_14, cl_0, cl_1, cl_2, cl_4, cl_10, cl_13, cl_16]; done) | (simp_all; done) | (simp_all; simp only [ks_get, ob_q1 e_5, ob_pc e_5, ob_c1 e_5, ob_c2 e_5, ob_c3 e_5, ob_q5 e_5, ob_fc e_5, ob_q7 e_5, ob_mc e_5, ob_sl e_5 e_6, th_cn e_13, th_pv e_13, th_b e_13, th_m e_13, th_s e_13, th_lk e_13, th_vl e_13 e_14, eo_6, ez_14, cl_0, cl_1, cl_2, cl_4, cl_10, cl_13, cl_16]))), trivial⟩, hS.F ht⟩) hS.2.2 dX2_get_53
        · refine lv_istore (lv' := [(4, .int (-14)), (3, .ref y_7), (0, .ref h0), (1, .int p0), (2, .int p1)]) hx hb dX2_get_34 hl (by decide) rfl (fun ls hl => ?_)
          refine lv_iload hx hb dX2_get_36 (lv_at hl 0 rfl) ?_
          refine lv_if_eq (tgt := 47) hx hb dX2_get_38 (by decide) (fun c9 => absurd c9 (by decide)) (fun _ => ?_)
          refine lv_iload hx hb dX2_get_41 (lv_at hl 0 rfl) ?_
          refine lv_i2l (v := (-14)) hx hb dX2_get_43 (by decide) ?_
          refine lv_goto (tgt := 53) hx hb dX2_get_44 (by decide) ?_
          exact W.lret (v := (-14)) hx hb hr (fun t ht hW => ⟨⟨(-14), (), rfl, (by first | (simp only [ks_get, ob_q1 e_5, ob_pc e_5, ob_c1 e_5, ob_c2 e_5, ob_c3 e_5, ob_q5 e_5, ob_fc e_5, ob_q7 e_5, ob_mc e_5, ob_sl e_5 e_6, eo_6, cl_0, cl_1, cl_2, cl_4, cl_10, cl_13, cl_16, ↓hp_2, ↓hp_4, ↓hp_12, ↓reduceIte, and_self, and_true, true_and, and_false, false_and, or_self, or_true, true_or, or_false, false_or, not_true_eq_false, not_false_eq_true, eq_self, Int.reduceLE, Int.reduceLT, Int.reduceEq]; done) | (simp only [ks_get, ob_q1 e_5, ob_pc e_5, ob_c1 e_5, ob_c2 e_5, ob_c3 e_5, ob_q5 e_5, ob_fc e_5, ob_q7 e_5, ob_mc e_5, ob_sl e_5 e_6, eo_6, cl_0, cl_1, cl_2, cl_4, cl_10, cl_13, cl_16, ↓hp_2, ↓hp_4, ↓hp_12, ↓reduceIte, and_self, and_true, true_and, and_false, false_and, or_self, or_true, true_or, or_false, false_or, not_true_eq_false, not_false_eq_true, eq_self, Int.reduceLE, Int.reduceLT, Int.reduceEq] <;> (repeat' split) <;> first | with_reducible rfl | with_reducible assumption | rfl | (exfalso; omega) | trivial | assumption) | (simp only [ks_get, ob_q1 e_5, ob_pc e_5, ob_c1 e_5, ob_c2 e_5, ob_c3 e_5, ob_q5 e_5, ob_fc e_5, ob_q7 e_5, ob_mc e_5, ob_sl e_5 e_6, eo_6, cl_0, cl_1, cl_2, cl_4, cl_10, cl_13, cl_16]; done) | (simp only [ks_get, ob_q1 e_5, ob_pc e_5, ob_c1 e_5, ob_c2 e_5, ob_c3 e_5, ob_q5 e_5, ob_fc e_5, ob_q7 e_5, ob_mc e_5, ob_sl e_5 e_6, eo_6, cl_0, cl_1, cl_2, cl_4, cl_10, cl_13, cl_16] <;> (repeat' split) <;> first | rfl | (exfalso; omega) | contradiction | (simp only [ks_get, ob_q1 e_5, ob_pc e_5, ob_c1 e_5, ob_c2 e_5, ob_c3 e_5, ob_q5 e_5, ob_fc e_5, ob_q7 e_5, ob_mc e_5, ob_sl e_5 e_6, eo_6, cl_0, cl_1, cl_2, cl_4, cl_10, cl_13, cl_16]; done) | (simp_all; done) | (simp_all; simp only [ks_get, ob_q1 e_5, ob_pc e_5, ob_c1 e_5, ob_c2 e_5, ob_c3 e_5, ob_q5 e_5, ob_fc e_5, ob_q7 e_5, ob_mc e_5, ob_sl e_5 e_6, eo_6, cl_0, cl_1, cl_2, cl_4, cl_10, cl_13, cl_16]))), trivial⟩, hS.F ht⟩) hS.2.2 dX2_get_53
    · refine lv_if_ne (tgt := 18) hx hb dX2_get_11 (by decide) (fun c9 => absurd c9 (by decide)) (fun _ => ?_)
      refine lv_ldc2 hx hb hown (hts (.constantLong RX2 55 (-1)) (by decide +kernel)) dX2_get_14 ?_
      exact W.lret (v := (-1)) hx hb hr (fun t ht hW => ⟨⟨(-1), (), rfl, (by first | (simp only [ks_get, cl_0, cl_1, cl_2, cl_4, cl_10, cl_13, cl_16, ↓hp_2, ↓hp_4, ↓reduceIte, and_self, and_true, true_and, and_false, false_and, or_self, or_true, true_or, or_false, false_or, not_true_eq_false, not_false_eq_true, eq_self, Int.reduceLE, Int.reduceLT, Int.reduceEq]; done) | (simp only [ks_get, cl_0, cl_1, cl_2, cl_4, cl_10, cl_13, cl_16, ↓hp_2, ↓hp_4, ↓reduceIte, and_self, and_true, true_and, and_false, false_and, or_self, or_true, true_or, or_false, false_or, not_true_eq_false, not_false_eq_true, eq_self, Int.reduceLE, Int.reduceLT, Int.reduceEq] <;> (repeat' split) <;> first | with_reducible rfl | with_reducible assumption | rfl | (exfalso; omega) | trivial | assumption) | (simp only [ks_get, cl_0, cl_1, cl_2, cl_4, cl_10, cl_13, cl_16]; done) | (simp only [ks_get, cl_0, cl_1, cl_2, cl_4, cl_10, cl_13, cl_16] <;> (repeat' split) <;> first | rfl | (exfalso; omega) | contradiction | (simp only [ks_get, cl_0, cl_1, cl_2, cl_4, cl_10, cl_13, cl_16]; done) | (simp_all; done) | (simp_all; simp only [ks_get, cl_0, cl_1, cl_2, cl_4, cl_10, cl_13, cl_16]))), trivial⟩, hS.F ht⟩) hS.2.2 dX2_get_17
  · refine lv_if_eq (tgt := 14) hx hb dX2_get_4 (by decide) (fun _ => ?_) (fun c9 => absurd c9 (by decide))
    refine lv_ldc2 hx hb hown (hts (.constantLong RX2 55 (-1)) (by decide +kernel)) dX2_get_14 ?_
    exact W.lret (v := (-1)) hx hb hr (fun t ht hW => ⟨⟨(-1), (), rfl, (by first | (simp only [ks_get, cl_0, cl_1, cl_2, cl_4, cl_10, cl_13, cl_16, ↓hp_2, ↓reduceIte, and_self, and_true, true_and, and_false, false_and, or_self, or_true, true_or, or_false, false_or, not_true_eq_false, not_false_eq_true, eq_self, Int.reduceLE, Int.reduceLT, Int.reduceEq]; done) | (simp only [ks_get, cl_0, cl_1, cl_2, cl_4, cl_10, cl_13, cl_16, ↓hp_2, ↓reduceIte, and_self, and_true, true_and, and_false, false_and, or_self, or_true, true_or, or_false, false_or, not_true_eq_false, not_false_eq_true, eq_self, Int.reduceLE, Int.reduceLT, Int.reduceEq] <;> (repeat' split) <;> first | with_reducible rfl | with_reducible assumption | rfl | (exfalso; omega) | trivial | assumption) | (simp only [ks_get, cl_0, cl_1, cl_2, cl_4, cl_10, cl_13, cl_16]; done) | (simp only [ks_get, cl_0, cl_1, cl_2, cl_4, cl_10, cl_13, cl_16] <;> (repeat' split) <;> first | rfl | (exfalso; omega) | contradiction | (simp only [ks_get, cl_0, cl_1, cl_2, cl_4, cl_10, cl_13, cl_16]; done) | (simp_all; done) | (simp_all; simp only [ks_get, cl_0, cl_1, cl_2, cl_4, cl_10, cl_13, cl_16]))), trivial⟩, hS.F ht⟩) hS.2.2 dX2_get_17
set_option maxRecDepth 20000 in
theorem in_u_X2_length_X1 : ∀ w ∈ u_ws RX1 TX1 6, w ∈ wsX2_length := by decide +kernel
set_option maxRecDepth 20000 in
theorem in_u_X2_length_X2 : ∀ w ∈ u_ws RX2 TX2 9, w ∈ wsX2_length := by decide +kernel
set_option maxRecDepth 100000 in
set_option maxHeartbeats 4000000 in
theorem u_X2_length (l : Launch) (dC : Nat → ClassId) (dI : Nat → Nat → Nat) (TT : Nat × Nat × Nat) (sz : Nat) (kT kI kJ : ClassId) (K : Nat → Nat) (L : List Nat) (f : Nat → va_E) (hPI : PI kT kI kJ K L f) (h0 : Nat) (hh0 : isr K L 2 h0) (p0 : Int32) : Met l yX2_length wsX2_length ({ frames := 3, cells := 0, slots := 0, locals := 63 } : Room) (va_Pc [.ref h0, .int p0] (pr dC dI (va_pl L f) [] [(kT, .object RX1), (kI, .int), (kJ, .long)] sz TT)) (va_Qi (fun (r : Int32) (u : Unit) => r = ks_length (g_sl f h0) (g_cn f) (g_rw f) p0) (fun _ _ => True) (va_A [] sz)) 0 0 (va_A [] sz) := by
  refine Met.ofW (cc := cX2_length) (maxL := 4) (ret := (some .int)) (by decide) rfl ?_
  intro p e s m args below meth c s₁ B hml hv
  obtain ⟨rfl, hsz, hP, hK, hD0, hst⟩ := hv
  have hx := B.exec
  have hb := B.bytes
  have hr := B.returns
  have hts := atoms_spec (ws := wsX2_length) B.pre
  have hown : s.vm.findClass RX2 = some m.cls := findClass_of_methodNamed B.named
  have hlocks := B.notSynchronized
  have iX1_ := in_u_X2_length_X1
  have iX2_ := in_u_X2_length_X2
  subst hsz
  have hD := hD0.self (sz := s.heap.size)
  generalize hAe : va_A [] s.heap.size = A at hD hst ⊢
  have hA : ∀ q : Nat, s.heap.size ≤ q → A q := fun q h => by rw [← hAe]; exact Or.inr h
  have hS : va_S A s.heap s.heap [] := va_S.rf
  have hl := lv_entry ([.ref h0, .int p0]) (n := 4) (Nat.le_of_ble_eq_true rfl)
  rw [lg_entry_eq]
  generalize (lg_sl ([.ref h0, .int p0]) ++ List.replicate (4 - (lg_sl ([.ref h0, .int p0])).length) Slot.unset).toArray = ls at hl ⊢
  have hl : lv_has ls 4 [(0, .ref h0), (1, .int p0)] := hl
  have km14_ : Int32.toInt (-14) = -14 := by decide
  have km11_ : Int32.toInt (-11) = -11 := by decide
  have km1_ : Int32.toInt (-1) = -1 := by decide
  have k0_ : Int32.toInt 0 = 0 := by decide
  refine lv_iload_n hx hb dX2_length_0 rfl (lv_at hl 1 rfl) ?_
  refine va_calli (va_runS (As := [.int p0]) (rest := []) ⟨hx, hb, hml, hown, hts⟩ (c_X2_isSlot l dC dI TT s.heap.size p0) (va_cwS 1 hts gX2_length_X2_isSlot rfl rfl rfl (by decide +kernel) ⟨Nat.le_of_ble_eq_true rfl, Nat.le_of_ble_eq_true rfl⟩) (pr_S (ws := []) (wA := []) (tys := []) vp_nil (hK.sub [] rfl) vd_nil hst hS (ro_free hS hA)) rfl rfl hl.1 rfl (lv_room (Nat.le_of_ble_eq_true rfl)) dX2_length_1 ⟨Nat.le_of_ble_eq_true rfl, Nat.le_of_ble_eq_true rfl⟩) hS (fun q _ h => (ro_free hS hA) q h) (ro_free hS hA) (fun r_1 u t H1 locs ht hvm hw hB hz1 hk1 hS => ?_)
  have hP := ro_keep hP hk1
  generalize H1 = H at hP hS ⊢
  rcases hw with ⟨rfl, hp_2⟩ | ⟨rfl, hp_2⟩
  · refine lv_if_ne (tgt := 9) hx hb dX2_length_4 (by decide) (fun _ => ?_) (fun c9 => absurd c9 (by decide))
    refine lv_aload_n hx hb dX2_length_9 rfl (lv_at hl 0 rfl) ?_
    obtain ⟨q1_3, pc_3, c1_3, c2_3, c3_3, q5_3, fc_3, q7_3, mc_3, e_3, fq1_3, fc1_3, fc2_3, fc3_3, fq5_3, ffc_3, fq7_3, fmc_3⟩ := hPI.a2 hh0
    obtain ⟨k_3, hk_3⟩ := va_plg hh0.1 e_3
    refine va_get (D := (dC, dI)) (ci := 2) (v := .ref q1_3) (C := RX2) (T := TX2) (N := 9) hx hb hts iX2_ hown hK hP k_3 hk_3 rfl 0 (by decide) (hts (.fieldLink RX2 11 "FieldLeaves" "slots" "[LFieldLeaves$Thing;") (by decide +kernel)) (fun _ h9 => h9) rfl dX2_length_10 ?_
    refine lv_iload_n hx hb dX2_length_13 rfl (lv_at hl 1 rfl) ?_
    obtain ⟨g_4, e_4, fg_4⟩ := hPI.a5 fq1_3
    obtain ⟨k_4, hk_4⟩ := va_plg fq1_3.1 e_4
    have h_4 : vp_in p0 12 := (vp_in_iff.mpr (by constructor <;> omega))
    refine va_aldq hx hb hK hP k_4 0 hk_4 rfl h_4 dX2_length_14 ?_
    have fo_4 := fg_4 _ (vp_lt h_4)
    generalize eo_4 : g_4 (Int32.toNatClampNeg p0) = o_4 at fo_4 ⊢
    rcases o_4 with _ | y_5
    · refine W.eq (g2 := F0 m 15 ls [.null]) rfl ?_
      refine lv_astore_nN (lv' := [(2, .null), (0, .ref h0), (1, .int p0)]) hx hb dX2_length_15 rfl hl (by decide) rfl (fun ls hl => ?_)
      refine lv_aload_nN hx hb dX2_length_16 rfl (lv_at hl 0 rfl) ?_
      refine va_calli (va_runS (As := [.null]) (rest := []) ⟨hx, hb, hml, hown, hts⟩ (c_X2_failureOfRow_null l dC dI TT H.size ) (va_cwS 1 hts gX2_length_X2_failureOfRow rfl rfl rfl (by decide +kernel) ⟨Nat.le_of_ble_eq_true rfl, Nat.le_of_ble_eq_true rfl⟩) (pr_S (ws := []) (wA := []) (tys := []) vp_nil (hK.sub [] rfl) vd_nil hst hS (ro_free hS hA)) rfl rfl hl.1 rfl (lv_room (Nat.le_of_ble_eq_true rfl)) dX2_length_17 ⟨Nat.le_of_ble_eq_true rfl, Nat.le_of_ble_eq_true rfl⟩) hS (fun q _ h => (ro_free hS hA) q h) (ro_free hS hA) (fun r_6 u t H1 locs ht hvm hw hB hz1 hk1 hS => ?_)
      have hP := ro_keep hP hk1
      generalize H1 = H at hP hS ⊢
      subst hw
      refine lv_istore_n (lv' := [(3, .int (-11)), (2, .null), (0, .ref h0), (1, .int p0)]) hx hb dX2_length_20 rfl hl (by decide) rfl (fun ls hl => ?_)
      refine lv_iload_n hx hb dX2_length_21 rfl (lv_at hl 0 rfl) ?_
      refine lv_if_eq (tgt := 29) hx hb dX2_length_22 (by decide) (fun c9 => absurd c9 (by decide)) (fun _ => ?_)
      refine lv_iload_n hx hb dX2_length_25 rfl (lv_at hl 0 rfl) ?_
      refine lv_goto (tgt := 34) hx hb dX2_length_26 (by decide) ?_
      exact W.iret (v := (-11)) hx hb hr (fun t ht hW => ⟨⟨(-11), (), rfl, (by first | (simp only [ks_length, ob_q1 e_3, ob_pc e_3, ob_c1 e_3, ob_c2 e_3, ob_c3 e_3, ob_q5 e_3, ob_fc e_3, ob_q7 e_3, ob_mc e_3, ob_sl e_3 e_4, eo_4, cl_0, cl_1, cl_2, cl_4, cl_10, cl_13, cl_16, ↓hp_2, km14_, km11_, km1_, k0_, ↓reduceIte, and_self, and_true, true_and, and_false, false_and, or_self, or_true, true_or, or_false, false_or, not_true_eq_false, not_false_eq_true, eq_self, Int.reduceLE, Int.reduceLT, Int.reduceEq]; done) | (simp only [ks_length, ob_q1 e_3, ob_pc e_3, ob_c1 e_3, ob_c2 e_3, ob_c3 e_3, ob_q5 e_3, ob_fc e_3, ob_q7 e_3, ob_mc e_3, ob_sl e_3 e_4, eo_4, cl_0, cl_1, cl_2, cl_4, cl_10, cl_13, cl_16, ↓hp_2, km14_, km11_, km1_, k0_, ↓reduceIte, and_self, and_true, true_and, and_false, false_and, or_self, or_true, true_or, or_false, false_or, not_true_eq_false, not_false_eq_true, eq_self, Int.reduceLE, Int.reduceLT, Int.reduceEq] <;> (repeat' split) <;> first | with_reducible rfl | with_reducible assumption | rfl | (exfalso; omega) | trivial | assumption) | (simp only [ks_length, ob_q1 e_3, ob_pc e_3, ob_c1 e_3, ob_c2 e_3, ob_c3 e_3, ob_q5 e_3, ob_fc e_3, ob_q7 e_3, ob_mc e_3, ob_sl e_3 e_4, eo_4, cl_0, cl_1, cl_2, cl_4, cl_10, cl_13, cl_16]; done) | (simp only [ks_length, ob_q1 e_3, ob_pc e_3, ob_c1 e_3, ob_c2 e_3, ob_c3 e_3, ob_q5 e_3, ob_fc e_3, ob_q7 e_3, ob_mc e_3, ob_sl e_3 e_4, eo_4, cl_0, cl_1, cl_2, cl_4, cl_10, cl_13, cl_16] <;> (repeat' split) <;> first | rfl | (exfalso; omega) | contradiction | (simp only [ks_length, ob_q1 e_3, ob_pc e_3, ob_c1 e_3, ob_c2 e_3, ob_c3 e_3, ob_q5 e_3, ob_fc e_3, ob_q7 e_3, ob_mc e_3, ob_sl e_3 e_4, eo_4, cl_0, cl_1, cl_2, cl_4, cl_10, cl_13, cl_16]; done) | (simp_all; done) | (simp_all; simp only [ks_length, ob_q1 e_3, ob_pc e_3, ob_c1 e_3, ob_c2 e_3, ob_c3 e_3, ob_q5 e_3, ob_fc e_3, ob_q7 e_3, ob_mc e_3, ob_sl e_3 e_4, eo_4, cl_0, cl_1, cl_2, cl_4, cl_10, cl_13, cl_16]))), trivial⟩, hS.F ht⟩) hS.2.2 dX2_length_34
    · have fy_5 := fo_4 y_5 rfl
      refine W.eq (g2 := F0 m 15 ls [.ref y_5]) rfl ?_
      refine lv_astore_n (lv' := [(2, .ref y_5), (0, .ref h0), (1, .int p0)]) hx hb dX2_length_15 rfl hl (by decide) rfl (fun ls hl => ?_)
      refine lv_aload_n hx hb dX2_length_16 rfl (lv_at hl 0 rfl) ?_
      refine va_calli (va_runS (As := [.ref y_5]) (rest := []) ⟨hx, hb, hml, hown, hts⟩ (u_X2_failureOfRow l dC dI TT H.size kT kI kJ K L f hPI y_5 fy_5 ) (va_cwS 1 hts gX2_length_X2_failureOfRow rfl rfl rfl (by decide +kernel) ⟨Nat.le_of_ble_eq_true rfl, Nat.le_of_ble_eq_true rfl⟩) (pr_S (ws := va_pl L f) (wA := []) (tys := [(kT, .object RX1), (kI, .int), (kJ, .long)]) hP hK vd_nil hst hS (ro_free hS hA)) rfl rfl hl.1 rfl (lv_room (Nat.le_of_ble_eq_true rfl)) dX2_length_17 ⟨Nat.le_of_ble_eq_true rfl, Nat.le_of_ble_eq_true rfl⟩) hS (fun q _ h => (ro_free hS hA) q h) (ro_free hS hA) (fun r_7 u t H1 locs ht hvm hw hB hz1 hk1 hS => ?_)
      have hP := ro_keep hP hk1
      generalize H1 = H at hP hS ⊢
      obtain ⟨ro_8, hw⟩ := hw
      rcases hw with ⟨rfl, hp_9⟩ | ⟨rfl, hp_9⟩ | ⟨rfl, hp_9⟩
      · refine lv_istore_n (lv' := [(3, .int 0), (2, .ref y_5), (0, .ref h0), (1, .int p0)]) hx hb dX2_length_20 rfl hl (by decide) rfl (fun ls hl => ?_)
        refine lv_iload_n hx hb dX2_length_21 rfl (lv_at hl 0 rfl) ?_
        refine lv_if_eq (tgt := 29) hx hb dX2_length_22 (by decide) (fun _ => ?_) (fun c9 => absurd c9 (by decide))
        refine lv_aload_n hx hb dX2_length_29 rfl (lv_at hl 1 rfl) ?_
        obtain ⟨cn_10, v_10, b_10, m_10, st_10, i_10, e_10, fv_10, fb_10, fm_10, fst_10, fi_10⟩ := hPI.a1 fy_5
        obtain ⟨k_10, hk_10⟩ := va_plg fy_5.1 e_10
        refine va_get (D := (dC, dI)) (ci := 1) (v := va_rf i_10) (C := RX1) (T := TX1) (N := 6) hx hb hts iX1_ hown hK hP k_10 hk_10 rfl 5 (by decide) (hts (.fieldLink RX2 91 "FieldLeaves$Thing" "ints" "[I") (by decide +kernel)) (fun _ h9 => h9) rfl dX2_length_30 ?_
        have nn_10 := ro_8 (by omega) _ _ _ _ _ _ e_10
        rcases i_10 with _ | y_11
        · exact absurd rfl nn_10
        · have fy_11 := fi_10 y_11 rfl
          refine W.eq (g2 := F0 m 33 ls [.ref y_11]) rfl ?_
          obtain ⟨n_12, g_12, e_12, fn_12⟩ := hPI.a4 fy_11
          have kn_12 := nI_len fn_12
          obtain ⟨k_12, hk_12⟩ := va_plg fy_11.1 e_12
          refine va_alen hx hb hK hP k_12 1 hk_12 rfl (v := Int32.ofNat n_12) rfl dX2_length_33 ?_
          exact W.iret (v := (Int32.ofNat n_12)) hx hb hr (fun t ht hW => ⟨⟨(Int32.ofNat n_12), (), rfl, (by have hc2 := congrArg Int32.toInt (th_cn e_10); first | (simp only [ks_length, ob_q1 e_3, ob_pc e_3, ob_c1 e_3, ob_c2 e_3, ob_c3 e_3, ob_q5 e_3, ob_fc e_3, ob_q7 e_3, ob_mc e_3, ob_sl e_3 e_4, th_cn e_10, th_pv e_10, th_b e_10, th_m e_10, th_s e_10, th_lk e_10, th_pi e_10, th_rw1 e_10 e_12, eo_4, cl_0, cl_1, cl_2, cl_4, cl_10, cl_13, cl_16]; done) | (simp only [ks_length, ob_q1 e_3, ob_pc e_3, ob_c1 e_3, ob_c2 e_3, ob_c3 e_3, ob_q5 e_3, ob_fc e_3, ob_q7 e_3, ob_mc e_3, ob_sl e_3 e_4, th_cn e_10, th_pv e_10, th_b e_10, th_m e_10, th_s e_10, th_lk e_10, th_pi e_10, th_rw1 e_10 e_12, eo_4, cl_0, cl_1, cl_2, cl_4, cl_10, cl_13, cl_16] <;> (repeat' split) <;> first | rfl | (exfalso; omega) | contradiction | (simp only [ks_length, ob_q1 e_3, ob_pc e_3, ob_c1 e_3, ob_c2 e_3, ob_c3 e_3, ob_q5 e_3, ob_fc e_3, ob_q7 e_3, ob_mc e_3, ob_sl e_3 e_4, th_cn e_10, th_pv e_10, th_b e_10, th_m e_10, th_s e_10, th_lk e_10, th_pi e_10, th_rw1 e_10 e_12, eo_4, cl_0, cl_1, cl_2, cl_4, cl_10, cl_13, cl_16]; done) | (simp_all; done) | (simp_all; simp only [ks_length, ob_q1 e_3, ob_pc e_3, ob_c1 e_3, ob_c2 e_3, ob_c3 e_3, ob_q5 e_3, ob_fc e_3, ob_q7 e_3, ob_mc e_3, ob_sl e_3 e_4, th_cn e_10, th_pv e_10, th_b e_10, th_m e_10, th_s e_10, th_lk e_10, th_pi e_10, th_rw1 e_10 e_12, eo_4, cl_0, cl_1, cl_2, cl_4, cl_10, cl_13, cl_16]))), trivial⟩, hS.F ht⟩) hS.2.2 dX2_length_34
      · refine lv_istore_n (lv' := [(3, .int (-14)), (2, .ref y_5), (0, .ref h0), (1, .int p0)]) hx hb dX2_length_20 rfl hl (by decide) rfl (fun ls hl => ?_)
        refine lv_iload_n hx hb dX2_length_21 rfl (lv_at hl 0 rfl) ?_
        refine lv_if_eq (tgt := 29) hx hb dX2_length_22 (by decide) (fun c9 => absurd c9 (by decide)) (fun _ => ?_)
        refine lv_iload_n hx hb dX2_length_25 rfl (lv_at hl 0 rfl) ?_
        refine lv_goto (tgt := 34) hx hb dX2_length_26 (by decide) ?_
        exact W.iret (v := (-14)) hx hb hr (fun t ht hW => ⟨⟨(-14), (), rfl, (by first | (simp only [ks_length, ob_q1 e_3, ob_pc e_3, ob_c1 e_3, ob_c2 e_3, ob_c3 e_3, ob_q5 e_3, ob_fc e_3, ob_q7 e_3, ob_mc e_3, ob_sl e_3 e_4, eo_4, cl_0, cl_1, cl_2, cl_4, cl_10, cl_13, cl_16, ↓hp_2, ↓hp_9, km14_, km11_, km1_, k0_, ↓reduceIte, and_self, and_true, true_and, and_false, false_and, or_self, or_true, true_or, or_false, false_or, not_true_eq_false, not_false_eq_true, eq_self, Int.reduceLE, Int.reduceLT, Int.reduceEq]; done) | (simp only [ks_length, ob_q1 e_3, ob_pc e_3, ob_c1 e_3, ob_c2 e_3, ob_c3 e_3, ob_q5 e_3, ob_fc e_3, ob_q7 e_3, ob_mc e_3, ob_sl e_3 e_4, eo_4, cl_0, cl_1, cl_2, cl_4, cl_10, cl_13, cl_16, ↓hp_2, ↓hp_9, km14_, km11_, km1_, k0_, ↓reduceIte, and_self, and_true, true_and, and_false, false_and, or_self, or_true, true_or, or_false, false_or, not_true_eq_false, not_false_eq_true, eq_self, Int.reduceLE, Int.reduceLT, Int.reduceEq] <;> (repeat' split) <;> first | with_reducible rfl | with_reducible assumption | rfl | (exfalso; omega) | trivial | assumption) | (simp only [ks_length, ob_q1 e_3, ob_pc e_3, ob_c1 e_3, ob_c2 e_3, ob_c3 e_3, ob_q5 e_3, ob_fc e_3, ob_q7 e_3, ob_mc e_3, ob_sl e_3 e_4, eo_4, cl_0, cl_1, cl_2, cl_4, cl_10, cl_13, cl_16]; done) | (simp only [ks_length, ob_q1 e_3, ob_pc e_3, ob_c1 e_3, ob_c2 e_3, ob_c3 e_3, ob_q5 e_3, ob_fc e_3, ob_q7 e_3, ob_mc e_3, ob_sl e_3 e_4, eo_4, cl_0, cl_1, cl_2, cl_4, cl_10, cl_13, cl_16] <;> (repeat' split) <;> first | rfl | (exfalso; omega) | contradiction | (simp only [ks_length, ob_q1 e_3, ob_pc e_3, ob_c1 e_3, ob_c2 e_3, ob_c3 e_3, ob_q5 e_3, ob_fc e_3, ob_q7 e_3, ob_mc e_3, ob_sl e_3 e_4, eo_4, cl_0, cl_1, cl_2, cl_4, cl_10, cl_13, cl_16]; done) | (simp_all; done) | (simp_all; simp only [ks_length, ob_q1 e_3, ob_pc e_3, ob_c1 e_3, ob_c2 e_3, ob_c3 e_3, ob_q5 e_3, ob_fc e_3, ob_q7 e_3, ob_mc e_3, ob_sl e_3 e_4, eo_4, cl_0, cl_1, cl_2, cl_4, cl_10, cl_13, cl_16]))), trivial⟩, hS.F ht⟩) hS.2.2 dX2_length_34
      · refine lv_istore_n (lv' := [(3, .int (-11)), (2, .ref y_5), (0, .ref h0), (1, .int p0)]) hx hb dX2_length_20 rfl hl (by decide) rfl (fun ls hl => ?_)
        refine lv_iload_n hx hb dX2_length_21 rfl (lv_at hl 0 rfl) ?_
        refine lv_if_eq (tgt := 29) hx hb dX2_length_22 (by decide) (fun c9 => absurd c9 (by decide)) (fun _ => ?_)
        refine lv_iload_n hx hb dX2_length_25 rfl (lv_at hl 0 rfl) ?_
        refine lv_goto (tgt := 34) hx hb dX2_length_26 (by decide) ?_
        exact W.iret (v := (-11)) hx hb hr (fun t ht hW => ⟨⟨(-11), (), rfl, (by first | (simp only [ks_length, ob_q1 e_3, ob_pc e_3, ob_c1 e_3, ob_c2 e_3, ob_c3 e_3, ob_q5 e_3, ob_fc e_3, ob_q7 e_3, ob_mc e_3, ob_sl e_3 e_4, eo_4, cl_0, cl_1, cl_2, cl_4, cl_10, cl_13, cl_16, ↓hp_2, ↓hp_9, km14_, km11_, km1_, k0_, ↓reduceIte, and_self, and_true, true_and, and_false, false_and, or_self, or_true, true_or, or_false, false_or, not_true_eq_false, not_false_eq_true, eq_self, Int.reduceLE, Int.reduceLT, Int.reduceEq]; done) | (simp only [ks_length, ob_q1 e_3, ob_pc e_3, ob_c1 e_3, ob_c2 e_3, ob_c3 e_3, ob_q5 e_3, ob_fc e_3, ob_q7 e_3, ob_mc e_3, ob_sl e_3 e_4, eo_4, cl_0, cl_1, cl_2, cl_4, cl_10, cl_13, cl_16, ↓hp_2, ↓hp_9, km14_, km11_, km1_, k0_, ↓reduceIte, and_self, and_true, true_and, and_false, false_and, or_self, or_true, true_or, or_false, false_or, not_true_eq_false, not_false_eq_true, eq_self, Int.reduceLE, Int.reduceLT, Int.reduceEq] <;> (repeat' split) <;> first | with_reducible rfl | with_reducible assumption | rfl | (exfalso; omega) | trivial | assumption) | (simp only [ks_length, ob_q1 e_3, ob_pc e_3, ob_c1 e_3, ob_c2 e_3, ob_c3 e_3, ob_q5 e_3, ob_fc e_3, ob_q7 e_3, ob_mc e_3, ob_sl e_3 e_4, eo_4, cl_0, cl_1, cl_2, cl_4, cl_10, cl_13, cl_16]; done) | (simp only [ks_length, ob_q1 e_3, ob_pc e_3, ob_c1 e_3, ob_c2 e_3, ob_c3 e_3, ob_q5 e_3, ob_fc e_3, ob_q7 e_3, ob_mc e_3, ob_sl e_3 e_4, eo_4, cl_0, cl_1, cl_2, cl_4, cl_10, cl_13, cl_16] <;> (repeat' split) <;> first | rfl | (exfalso; omega) | contradiction | (simp only [ks_length, ob_q1 e_3, ob_pc e_3, ob_c1 e_3, ob_c2 e_3, ob_c3 e_3, ob_q5 e_3, ob_fc e_3, ob_q7 e_3, ob_mc e_3, ob_sl e_3 e_4, eo_4, cl_0, cl_1, cl_2, cl_4, cl_10, cl_13, cl_16]; done) | (simp_all; done) | (simp_all; simp only [ks_length, ob_q1 e_3, ob_pc e_3, ob_c1 e_3, ob_c2 e_3, ob_c3 e_3, ob_q5 e_3, ob_fc e_3, ob_q7 e_3, ob_mc e_3, ob_sl e_3 e_4, eo_4, cl_0, cl_1, cl_2, cl_4, cl_10, cl_13, cl_16]))), trivial⟩, hS.F ht⟩) hS.2.2 dX2_length_34
  · refine lv_if_ne (tgt := 9) hx hb dX2_length_4 (by decide) (fun c9 => absurd c9 (by decide)) (fun _ => ?_)
    refine lv_iconst (v := (-1)) hx hb dX2_length_7 (by decide) ?_
    exact W.iret (v := (-1)) hx hb hr (fun t ht hW => ⟨⟨(-1), (), rfl, (by first | (simp only [ks_length, cl_0, cl_1, cl_2, cl_4, cl_10, cl_13, cl_16, ↓hp_2, km14_, km11_, km1_, k0_, ↓reduceIte, and_self, and_true, true_and, and_false, false_and, or_self, or_true, true_or, or_false, false_or, not_true_eq_false, not_false_eq_true, eq_self, Int.reduceLE, Int.reduceLT, Int.reduceEq]; done) | (simp only [ks_length, cl_0, cl_1, cl_2, cl_4, cl_10, cl_13, cl_16, ↓hp_2, km14_, km11_, km1_, k0_, ↓reduceIte, and_self, and_true, true_and, and_false, false_and, or_self, or_true, true_or, or_false, false_or, not_true_eq_false, not_false_eq_true, eq_self, Int.reduceLE, Int.reduceLT, Int.reduceEq] <;> (repeat' split) <;> first | with_reducible rfl | with_reducible assumption | rfl | (exfalso; omega) | trivial | assumption) | (simp only [ks_length, cl_0, cl_1, cl_2, cl_4, cl_10, cl_13, cl_16]; done) | (simp only [ks_length, cl_0, cl_1, cl_2, cl_4, cl_10, cl_13, cl_16] <;> (repeat' split) <;> first | rfl | (exfalso; omega) | contradiction | (simp only [ks_length, cl_0, cl_1, cl_2, cl_4, cl_10, cl_13, cl_16]; done) | (simp_all; done) | (simp_all; simp only [ks_length, cl_0, cl_1, cl_2, cl_4, cl_10, cl_13, cl_16]))), trivial⟩, hS.F ht⟩) hS.2.2 dX2_length_8
set_option maxRecDepth 20000 in
theorem in_u_X2_count_X1 : ∀ w ∈ u_ws RX1 TX1 6, w ∈ wsX2_count := by decide +kernel
set_option maxRecDepth 20000 in
theorem in_u_X2_count_X2 : ∀ w ∈ u_ws RX2 TX2 9, w ∈ wsX2_count := by decide +kernel
set_option maxRecDepth 100000 in
set_option maxHeartbeats 4000000 in
theorem u_X2_count (l : Launch) (dC : Nat → ClassId) (dI : Nat → Nat → Nat) (TT : Nat × Nat × Nat) (sz : Nat) (kT kI kJ : ClassId) (K : Nat → Nat) (L : List Nat) (f : Nat → va_E) (hPI : PI kT kI kJ K L f) (h0 : Nat) (hh0 : isr K L 2 h0) (p0 : Int32) (p1 : Int32) : Met l yX2_count wsX2_count ({ frames := 2, cells := 0, slots := 0, locals := 42 } : Room) (va_Pc [.ref h0, .int p0, .int p1] (pr dC dI (va_pl L f) [] [(kT, .object RX1), (kI, .int), (kJ, .long)] sz TT)) (va_Ql (fun (r : Int64) (u : Unit) => r = ks_count (g_sl f h0) (g_cn f) (g_vl f) p0 p1) (fun _ _ => True) (va_A [] sz)) 0 0 (va_A [] sz) := by
  refine Met.ofW (cc := cX2_count) (maxL := 5) (ret := (some .long)) (by decide) rfl ?_
  intro p e s m args below meth c s₁ B hml hv
  obtain ⟨rfl, hsz, hP, hK, hD0, hst⟩ := hv
  have hx := B.exec
  have hb := B.bytes
  have hr := B.returns
  have hts := atoms_spec (ws := wsX2_count) B.pre
  have hown : s.vm.findClass RX2 = some m.cls := findClass_of_methodNamed B.named
  have hlocks := B.notSynchronized
  have iX1_ := in_u_X2_count_X1
  have iX2_ := in_u_X2_count_X2
  subst hsz
  have hD := hD0.self (sz := s.heap.size)
  generalize hAe : va_A [] s.heap.size = A at hD hst ⊢
  have hA : ∀ q : Nat, s.heap.size ≤ q → A q := fun q h => by rw [← hAe]; exact Or.inr h
  have hS : va_S A s.heap s.heap [] := va_S.rf
  have hl := lv_entry ([.ref h0, .int p0, .int p1]) (n := 5) (Nat.le_of_ble_eq_true rfl)
  rw [lg_entry_eq]
  generalize (lg_sl ([.ref h0, .int p0, .int p1]) ++ List.replicate (5 - (lg_sl ([.ref h0, .int p0, .int p1])).length) Slot.unset).toArray = ls at hl ⊢
  have hl : lv_has ls 5 [(0, .ref h0), (1, .int p0), (2, .int p1)] := hl
  have k0_ : Int32.toInt 0 = 0 := by decide
  have k2_ : Int32.toInt 2 = 2 := by decide
  have klm14_ : Int64.toInt (-14) = -14 := by decide
  have klm11_ : Int64.toInt (-11) = -11 := by decide
  have klm1_ : Int64.toInt (-1) = -1 := by decide
  refine lv_iload_n hx hb dX2_count_0 rfl (lv_at hl 1 rfl) ?_
  refine va_calli (va_runS (As := [.int p0]) (rest := []) ⟨hx, hb, hml, hown, hts⟩ (c_X2_isSlot l dC dI TT s.heap.size p0) (va_cwS 1 hts gX2_count_X2_isSlot rfl rfl rfl (by decide +kernel) ⟨Nat.le_of_ble_eq_true rfl, Nat.le_of_ble_eq_true rfl⟩) (pr_S (ws := []) (wA := []) (tys := []) vp_nil (hK.sub [] rfl) vd_nil hst hS (ro_free hS hA)) rfl rfl hl.1 rfl (lv_room (Nat.le_of_ble_eq_true rfl)) dX2_count_1 ⟨Nat.le_of_ble_eq_true rfl, Nat.le_of_ble_eq_true rfl⟩) hS (fun q _ h => (ro_free hS hA) q h) (ro_free hS hA) (fun r_1 u t H1 locs ht hvm hw hB hz1 hk1 hS => ?_)
  have hP := ro_keep hP hk1
  generalize H1 = H at hP hS ⊢
  rcases hw with ⟨rfl, hp_2⟩ | ⟨rfl, hp_2⟩
  · refine lv_if_eq (tgt := 16) hx hb dX2_count_4 (by decide) (fun c9 => absurd c9 (by decide)) (fun _ => ?_)
    refine lv_iload_n hx hb dX2_count_7 rfl (lv_at hl 2 rfl) ?_
    refine lv_if_lt (tgt := 16) hx hb dX2_count_8 (by decide) (fun c_3 => ?_) (fun c_3 => ?_)
    · have c_3 := Int32.lt_iff_toInt_lt.mp c_3
      refine lv_ldc2 hx hb hown (hts (.constantLong RX2 55 (-1)) (by decide +kernel)) dX2_count_16 ?_
      exact W.lret (v := (-1)) hx hb hr (fun t ht hW => ⟨⟨(-1), (), rfl, (by first | ((try simp only [k0_, k2_] at c_3); simp only [ks_count, cl_0, cl_1, cl_2, cl_4, cl_10, cl_13, cl_16, ↓hp_2, c_3, k0_, k2_, ↓reduceIte, and_self, and_true, true_and, and_false, false_and, or_self, or_true, true_or, or_false, false_or, not_true_eq_false, not_false_eq_true, eq_self, Int.reduceLE, Int.reduceLT, Int.reduceEq]; done) | ((try simp only [k0_, k2_] at c_3); (try simp only [c_3, k0_, k2_, ↓reduceIte, and_self, and_true, true_and, and_false, false_and, or_self, or_true, true_or, or_false, false_or, not_true_eq_false, not_false_eq_true, eq_self, Int.reduceLE, Int.reduceLT, Int.reduceEq, Classical.not_not] at hp_2); simp only [ks_count, cl_0, cl_1, cl_2, cl_4, cl_10, cl_13, cl_16, hp_2, c_3, k0_, k2_, ↓reduceIte, and_self, and_true, true_and, and_false, false_and, or_self, or_true, true_or, or_false, false_or, not_true_eq_false, not_false_eq_true, eq_self, Int.reduceLE, Int.reduceLT, Int.reduceEq]; done) | ((try simp only [k0_, k2_] at c_3); simp only [ks_count, cl_0, cl_1, cl_2, cl_4, cl_10, cl_13, cl_16, ↓hp_2, c_3, k0_, k2_, ↓reduceIte, and_self, and_true, true_and, and_false, false_and, or_self, or_true, true_or, or_false, false_or, not_true_eq_false, not_false_eq_true, eq_self, Int.reduceLE, Int.reduceLT, Int.reduceEq] <;> (repeat' split) <;> first | with_reducible rfl | with_reducible assumption | rfl | (exfalso; omega) | trivial | assumption) | ((try simp only [k0_, k2_] at c_3); (try simp only [c_3, k0_, k2_, ↓reduceIte, and_self, and_true, true_and, and_false, false_and, or_self, or_true, true_or, or_false, false_or, not_true_eq_false, not_false_eq_true, eq_self, Int.reduceLE, Int.reduceLT, Int.reduceEq, Classical.not_not] at hp_2); simp only [ks_count, cl_0, cl_1, cl_2, cl_4, cl_10, cl_13, cl_16, hp_2, c_3, k0_, k2_, ↓reduceIte, and_self, and_true, true_and, and_false, false_and, or_self, or_true, true_or, or_false, false_or, not_true_eq_false, not_false_eq_true, eq_self, Int.reduceLE, Int.reduceLT, Int.reduceEq] <;> (repeat' split) <;> first | with_reducible rfl | with_reducible assumption | rfl | (exfalso; omega) | trivial | assumption) | (simp only [ks_count, cl_0, cl_1, cl_2, cl_4, cl_10, cl_13, cl_16]; done) | (simp only [ks_count, cl_0, cl_1, cl_2, cl_4, cl_10, cl_13, cl_16] <;> (repeat' split) <;> first | rfl | (exfalso; omega) | contradiction | (simp only [ks_count, cl_0, cl_1, cl_2, cl_4, cl_10, cl_13, cl_16]; done) | (simp_all; done) | (simp_all; simp only [ks_count, cl_0, cl_1, cl_2, cl_4, cl_10, cl_13, cl_16]))), trivial⟩, hS.F ht⟩) hS.2.2 dX2_count_19
    · have c_3 := mt Int32.lt_iff_toInt_lt.mpr c_3
      refine lv_iload_n hx hb dX2_count_11 rfl (lv_at hl 2 rfl) ?_
      refine lv_iconst (v := 2) hx hb dX2_count_12 (by decide) ?_
      refine lv_icmp_le (tgt := 20) hx hb dX2_count_13 (by decide) (fun c_4 => ?_) (fun c_4 => ?_)
      · have c_4 := Int32.le_iff_toInt_le.mp c_4
        refine lv_aload_n hx hb dX2_count_20 rfl (lv_at hl 0 rfl) ?_
        obtain ⟨q1_5, pc_5, c1_5, c2_5, c3_5, q5_5, fc_5, q7_5, mc_5, e_5, fq1_5, fc1_5, fc2_5, fc3_5, fq5_5, ffc_5, fq7_5, fmc_5⟩ := hPI.a2 hh0
        obtain ⟨k_5, hk_5⟩ := va_plg hh0.1 e_5
        refine va_get (D := (dC, dI)) (ci := 2) (v := .ref q1_5) (C := RX2) (T := TX2) (N := 9) hx hb hts iX2_ hown hK hP k_5 hk_5 rfl 0 (by decide) (hts (.fieldLink RX2 11 "FieldLeaves" "slots" "[LFieldLeaves$Thing;") (by decide +kernel)) (fun _ h9 => h9) rfl dX2_count_21 ?_
        refine lv_iload_n hx hb dX2_count_24 rfl (lv_at hl 1 rfl) ?_
        obtain ⟨g_6, e_6, fg_6⟩ := hPI.a5 fq1_5
        obtain ⟨k_6, hk_6⟩ := va_plg fq1_5.1 e_6
        have h_6 : vp_in p0 12 := (vp_in_iff.mpr (by constructor <;> omega))
        refine va_aldq hx hb hK hP k_6 0 hk_6 rfl h_6 dX2_count_25 ?_
        have fo_6 := fg_6 _ (vp_lt h_6)
        generalize eo_6 : g_6 (Int32.toNatClampNeg p0) = o_6 at fo_6 ⊢
        rcases o_6 with _ | y_7
        · refine W.eq (g2 := F0 m 26 ls [.null]) rfl ?_
          refine lv_astore_nN (lv' := [(3, .null), (0, .ref h0), (1, .int p0), (2, .int p1)]) hx hb dX2_count_26 rfl hl (by decide) rfl (fun ls hl => ?_)
          refine lv_aload_nN hx hb dX2_count_27 rfl (lv_at hl 0 rfl) ?_
          refine lv_iload_n hx hb dX2_count_28 rfl (lv_at hl 3 rfl) ?_
          refine va_calli (va_runS (As := [.null, .int p1]) (rest := []) ⟨hx, hb, hml, hown, hts⟩ (c_X2_failureAs_null l dC dI TT H.size p1) (va_cwS 2 hts gX2_count_X2_failureAs rfl rfl rfl (by decide +kernel) ⟨Nat.le_of_ble_eq_true rfl, Nat.le_of_ble_eq_true rfl⟩) (pr_S (ws := []) (wA := []) (tys := []) vp_nil (hK.sub [] rfl) vd_nil hst hS (ro_free hS hA)) rfl rfl hl.1 rfl (lv_room (Nat.le_of_ble_eq_true rfl)) dX2_count_29 ⟨Nat.le_of_ble_eq_true rfl, Nat.le_of_ble_eq_true rfl⟩) hS (fun q _ h => (ro_free hS hA) q h) (ro_free hS hA) (fun r_8 u t H1 locs ht hvm hw hB hz1 hk1 hS => ?_)
          have hP := ro_keep hP hk1
          generalize H1 = H at hP hS ⊢
          subst hw
          refine lv_istore (lv' := [(4, .int (-11)), (3, .null), (0, .ref h0), (1, .int p0), (2, .int p1)]) hx hb dX2_count_32 hl (by decide) rfl (fun ls hl => ?_)
          refine lv_iload hx hb dX2_count_34 (lv_at hl 0 rfl) ?_
          refine lv_if_eq (tgt := 45) hx hb dX2_count_36 (by decide) (fun c9 => absurd c9 (by decide)) (fun _ => ?_)
          refine lv_iload hx hb dX2_count_39 (lv_at hl 0 rfl) ?_
          refine lv_i2l (v := (-11)) hx hb dX2_count_41 (by decide) ?_
          refine lv_goto (tgt := 55) hx hb dX2_count_42 (by decide) ?_
          exact W.lret (v := (-11)) hx hb hr (fun t ht hW => ⟨⟨(-11), (), rfl, (by first | ((try simp only [k0_, k2_] at c_3 c_4); simp only [ks_count, ob_q1 e_5, ob_pc e_5, ob_c1 e_5, ob_c2 e_5, ob_c3 e_5, ob_q5 e_5, ob_fc e_5, ob_q7 e_5, ob_mc e_5, ob_sl e_5 e_6, eo_6, cl_0, cl_1, cl_2, cl_4, cl_10, cl_13, cl_16, ↓hp_2, c_3, c_4, k0_, k2_, ↓reduceIte, and_self, and_true, true_and, and_false, false_and, or_self, or_true, true_or, or_false, false_or, not_true_eq_false, not_false_eq_true, eq_self, Int.reduceLE, Int.reduceLT, Int.reduceEq]; done) | ((try simp only [k0_, k2_] at c_3 c_4); (try simp only [c_3, c_4, k0_, k2_, ↓reduceIte, and_self, and_true, true_and, and_false, false_and, or_self, or_true, true_or, or_false, false_or, not_true_eq_false, not_false_eq_true, eq_self, Int.reduceLE, Int.reduceLT, Int.reduceEq, Classical.not_not] at hp_2); simp only [ks_count, ob_q1 e_5, ob_pc e_5, ob_c1 e_5, ob_c2 e_5, ob_c3 e_5, ob_q5 e_5, ob_fc e_5, ob_q7 e_5, ob_mc e_5, ob_sl e_5 e_6, eo_6, cl_0, cl_1, cl_2, cl_4, cl_10, cl_13, cl_16, hp_2, c_3, c_4, k0_, k2_, ↓reduceIte, and_self, and_true, true_and, and_false, false_and, or_self, or_true, true_or, or_false, false_or, not_true_eq_false, not_false_eq_true, eq_self, Int.reduceLE, Int.reduceLT, Int.reduceEq]; done) | exact absurd c_3 c_4 | exact absurd c_4 c_3 | ((try simp only [k0_, k2_] at c_3 c_4); simp only [ks_count, ob_q1 e_5, ob_pc e_5, ob_c1 e_5, ob_c2 e_5, ob_c3 e_5, ob_q5 e_5, ob_fc e_5, ob_q7 e_5, ob_mc e_5, ob_sl e_5 e_6, eo_6, cl_0, cl_1, cl_2, cl_4, cl_10, cl_13, cl_16, ↓hp_2, c_3, c_4, k0_, k2_, ↓reduceIte, and_self, and_true, true_and, and_false, false_and, or_self, or_true, true_or, or_false, false_or, not_true_eq_false, not_false_eq_true, eq_self, Int.reduceLE, Int.reduceLT, Int.reduceEq] <;> (repeat' split) <;> first | with_reducible rfl | with_reducible assumption | rfl | (exfalso; omega) | trivial | assumption) | ((try simp only [k0_, k2_] at c_3 c_4); (try simp only [c_3, c_4, k0_, k2_, ↓reduceIte, and_self, and_true, true_and, and_false, false_and, or_self, or_true, true_or, or_false, false_or, not_true_eq_false, not_false_eq_true, eq_self, Int.reduceLE, Int.reduceLT, Int.reduceEq, Classical.not_not] at hp_2); simp only [ks_count, ob_q1 e_5, ob_pc e_5, ob_c1 e_5, ob_c2 e_5, ob_c3 e_5, ob_q5 e_5, ob_fc e_5, ob_q7 e_5, ob_mc e_5, ob_sl e_5 e_6, eo_6, cl_0, cl_1, cl_2, cl_4, cl_10, cl_13, cl_16, hp_2, c_3, c_4, k0_, k2_, ↓reduceIte, and_self, and_true, true_and, and_false, false_and, or_self, or_true, true_or, or_false, false_or, not_true_eq_false, not_false_eq_true, eq_self, Int.reduceLE, Int.reduceLT, Int.reduceEq] <;> (repeat' split) <;> first | with_reducible rfl | with_reducible assumption | rfl | (exfalso; omega) | trivial | assumption) | (simp only [ks_count, ob_q1 e_5, ob_pc e_5, ob_c1 e_5, ob_c2 e_5, ob_c3 e_5, ob_q5 e_5, ob_fc e_5, ob_q7 e_5, ob_mc e_5, ob_sl e_5 e_6, eo_6, cl_0, cl_1, cl_2, cl_4, cl_10, cl_13, cl_16]; done) | (simp only [ks_count, ob_q1 e_5, ob_pc e_5, ob_c1 e_5, ob_c2 e_5, ob_c3 e_5, ob_q5 e_5, ob_fc e_5, ob_q7 e_5, ob_mc e_5, ob_sl e_5 e_6, eo_6, cl_0, cl_1, cl_2, cl_4, cl_10, cl_13, cl_16] <;> (repeat' split) <;> first | rfl | (exfalso; omega) | contradiction | (simp only [ks_count, ob_q1 e_5, ob_pc e_5, ob_c1 e_5, ob_c2 e_5, ob_c3 e_5, ob_q5 e_5, ob_fc e_5, ob_q7 e_5, ob_mc e_5, ob_sl e_5 e_6, eo_6, cl_0, cl_1, cl_2, cl_4, cl_10, cl_13, cl_16]; done) | (simp_all; done) | (simp_all; simp only [ks_count, ob_q1 e_5, ob_pc e_5, ob_c1 e_5, ob_c2 e_5, ob_c3 e_5, ob_q5 e_5, ob_fc e_5, ob_q7 e_5, ob_mc e_5, ob_sl e_5 e_6, eo_6, cl_0, cl_1, cl_2, cl_4, cl_10, cl_13, cl_16]))), trivial⟩, hS.F ht⟩) hS.2.2 dX2_count_55
        · have fy_7 := fo_6 y_7 rfl
          refine W.eq (g2 := F0 m 26 ls [.ref y_7]) rfl ?_
          refine lv_astore_n (lv' := [(3, .ref y_7), (0, .ref h0), (1, .int p0), (2, .int p1)]) hx hb dX2_count_26 rfl hl (by decide) rfl (fun ls hl => ?_)
          refine lv_aload_n hx hb dX2_count_27 rfl (lv_at hl 0 rfl) ?_
          refine lv_iload_n hx hb dX2_count_28 rfl (lv_at hl 3 rfl) ?_
          refine va_calli (va_runS (As := [.ref y_7, .int p1]) (rest := []) ⟨hx, hb, hml, hown, hts⟩ (u_X2_failureAs l dC dI TT H.size kT kI kJ K L f hPI y_7 fy_7 p1) (va_cwS 2 hts gX2_count_X2_failureAs rfl rfl rfl (by decide +kernel) ⟨Nat.le_of_ble_eq_true rfl, Nat.le_of_ble_eq_true rfl⟩) (pr_S (ws := va_pl L f) (wA := []) (tys := [(kT, .object RX1), (kI, .int), (kJ, .long)]) hP hK vd_nil hst hS (ro_free hS hA)) rfl rfl hl.1 rfl (lv_room (Nat.le_of_ble_eq_true rfl)) dX2_count_29 ⟨Nat.le_of_ble_eq_true rfl, Nat.le_of_ble_eq_true rfl⟩) hS (fun q _ h => (ro_free hS hA) q h) (ro_free hS hA) (fun r_9 u t H1 locs ht hvm hw hB hz1 hk1 hS => ?_)
          have hP := ro_keep hP hk1
          generalize H1 = H at hP hS ⊢
          rcases hw with ⟨rfl, hp_10⟩ | ⟨rfl, hp_10⟩
          · refine lv_istore (lv' := [(4, .int 0), (3, .ref y_7), (0, .ref h0), (1, .int p0), (2, .int p1)]) hx hb dX2_count_32 hl (by decide) rfl (fun ls hl => ?_)
            refine lv_iload hx hb dX2_count_34 (lv_at hl 0 rfl) ?_
            refine lv_if_eq (tgt := 45) hx hb dX2_count_36 (by decide) (fun _ => ?_) (fun c9 => absurd c9 (by decide))
            refine lv_aload_n hx hb dX2_count_45 rfl (lv_at hl 1 rfl) ?_
            obtain ⟨cn_11, v_11, b_11, m_11, st_11, i_11, e_11, fv_11, fb_11, fm_11, fst_11, fi_11⟩ := hPI.a1 fy_7
            obtain ⟨k_11, hk_11⟩ := va_plg fy_7.1 e_11
            refine va_get (D := (dC, dI)) (ci := 1) (v := .ref v_11) (C := RX1) (T := TX1) (N := 6) hx hb hts iX1_ hown hK hP k_11 hk_11 rfl 1 (by decide) (hts (.fieldLink RX2 65 "FieldLeaves$Thing" "values" "[J") (by decide +kernel)) (fun _ h9 => h9) rfl dX2_count_46 ?_
            refine va_gets (v := .ref TT.2.2) hx hb hst.zC hS hown (hts (.fieldLink RX2 98 "FieldLeaves" "COUNT_OF" "[I") (by decide +kernel)) (fun _ h9 => h9) dX2_count_49 ?_
            refine lv_iload_n hx hb dX2_count_52 rfl (lv_at hl 4 rfl) ?_
            have h_12 : vp_in p1 3 := (vp_in_iff.mpr (by constructor <;> omega))
            refine va_ti hx hb hst.tC hS h_12 (v := .int (COUNTt (Int32.toNatClampNeg p1))) rfl dX2_count_53 ?_
            have fh_12 := COUNTt_is h_12
            obtain ⟨g_13, e_13⟩ := hPI.a3 fv_11
            obtain ⟨k_13, hk_13⟩ := va_plg fv_11.1 e_13
            have h_13 : vp_in (COUNTt (Int32.toNatClampNeg p1)) 17 := (vp_in_iff.mpr (by constructor <;> omega))
            refine va_lald hx hb hK hP k_13 2 hk_13 rfl h_13 dX2_count_54 ?_
            refine lv_topl (fun z_13 ez_13 => ?_)
            exact W.lret (v := z_13) hx hb hr (fun t ht hW => ⟨⟨z_13, (), rfl, (by have hc2 := congrArg Int32.toInt (th_cn e_11); first | (simp only [ks_count, ob_q1 e_5, ob_pc e_5, ob_c1 e_5, ob_c2 e_5, ob_c3 e_5, ob_q5 e_5, ob_fc e_5, ob_q7 e_5, ob_mc e_5, ob_sl e_5 e_6, th_cn e_11, th_pv e_11, th_b e_11, th_m e_11, th_s e_11, th_lk e_11, th_vl e_11 e_13, eo_6, ez_13, cl_0, cl_1, cl_2, cl_4, cl_10, cl_13, cl_16]; done) | (simp only [ks_count, ob_q1 e_5, ob_pc e_5, ob_c1 e_5, ob_c2 e_5, ob_c3 e_5, ob_q5 e_5, ob_fc e_5, ob_q7 e_5, ob_mc e_5, ob_sl e_5 e_6, th_cn e_11, th_pv e_11, th_b e_11, th_m e_11, th_s e_11, th_lk e_11, th_vl e_11 e_13, eo_6, ez_13, cl_0, cl_1, cl_2, cl_4, cl_10, cl_13, cl_16] <;> (repeat' split) <;> first | rfl | (exfalso; omega) | contradiction | (simp only [ks_count, ob_q1 e_5, ob_pc e_5, ob_c1 e_5, ob_c2 e_5, ob_c3 e_5, ob_q5 e_5, ob_fc e_5, ob_q7 e_5, ob_mc e_5, ob_sl e_5 e_6, th_cn e_11, th_pv e_11, th_b e_11, th_m e_11, th_s e_11, th_lk e_11, th_vl e_11 e_13, eo_6, ez_13, cl_0, cl_1, cl_2, cl_4, cl_10, cl_13, cl_16]; done) | (simp_all; done) | (simp_all; simp only [ks_count, ob_q1 e_5, ob_pc e_5, ob_c1 e_5, ob_c2 e_5, ob_c3 e_5, ob_q5 e_5, ob_fc e_5, ob_q7 e_5, ob_mc e_5, ob_sl e_5 e_6, th_cn e_11, th_pv e_11, th_b e_11, th_m e_11, th_s e_11, th_lk e_11, th_vl e_11 e_13, eo_6, ez_13, cl_0, cl_1, cl_2, cl_4, cl_10, cl_13, cl_16]))), trivial⟩, hS.F ht⟩) hS.2.2 dX2_count_55
          · refine lv_istore (lv' := [(4, .int (-14)), (3, .ref y_7), (0, .ref h0), (1, .int p0), (2, .int p1)]) hx hb dX2_count_32 hl (by decide) rfl (fun ls hl => ?_)
            refine lv_iload hx hb dX2_count_34 (lv_at hl 0 rfl) ?_
            refine lv_if_eq (tgt := 45) hx hb dX2_count_36 (by decide) (fun c9 => absurd c9 (by decide)) (fun _ => ?_)
            refine lv_iload hx hb dX2_count_39 (lv_at hl 0 rfl) ?_
            refine lv_i2l (v := (-14)) hx hb dX2_count_41 (by decide) ?_
            refine lv_goto (tgt := 55) hx hb dX2_count_42 (by decide) ?_
            exact W.lret (v := (-14)) hx hb hr (fun t ht hW => ⟨⟨(-14), (), rfl, (by first | ((try simp only [k0_, k2_] at c_3 c_4); simp only [ks_count, ob_q1 e_5, ob_pc e_5, ob_c1 e_5, ob_c2 e_5, ob_c3 e_5, ob_q5 e_5, ob_fc e_5, ob_q7 e_5, ob_mc e_5, ob_sl e_5 e_6, eo_6, cl_0, cl_1, cl_2, cl_4, cl_10, cl_13, cl_16, ↓hp_2, ↓hp_10, c_3, c_4, k0_, k2_, ↓reduceIte, and_self, and_true, true_and, and_false, false_and, or_self, or_true, true_or, or_false, false_or, not_true_eq_false, not_false_eq_true, eq_self, Int.reduceLE, Int.reduceLT, Int.reduceEq]; done) | ((try simp only [k0_, k2_] at c_3 c_4); (try simp only [c_3, c_4, k0_, k2_, ↓reduceIte, and_self, and_true, true_and, and_false, false_and, or_self, or_true, true_or, or_false, false_or, not_true_eq_false, not_false_eq_true, eq_self, Int.reduceLE, Int.reduceLT, Int.reduceEq, Classical.not_not] at hp_2 hp_10); simp only [ks_count, ob_q1 e_5, ob_pc e_5, ob_c1 e_5, ob_c2 e_5, ob_c3 e_5, ob_q5 e_5, ob_fc e_5, ob_q7 e_5, ob_mc e_5, ob_sl e_5 e_6, eo_6, cl_0, cl_1, cl_2, cl_4, cl_10, cl_13, cl_16, hp_2, hp_10, c_3, c_4, k0_, k2_, ↓reduceIte, and_self, and_true, true_and, and_false, false_and, or_self, or_true, true_or, or_false, false_or, not_true_eq_false, not_false_eq_true, eq_self, Int.reduceLE, Int.reduceLT, Int.reduceEq]; done) | exact absurd c_3 c_4 | exact absurd c_4 c_3 | ((try simp only [k0_, k2_] at c_3 c_4); simp only [ks_count, ob_q1 e_5, ob_pc e_5, ob_c1 e_5, ob_c2 e_5, ob_c3 e_5, ob_q5 e_5, ob_fc e_5, ob_q7 e_5, ob_mc e_5, ob_sl e_5 e_6, eo_6, cl_0, cl_1, cl_2, cl_4, cl_10, cl_13, cl_16, ↓hp_2, ↓hp_10, c_3, c_4, k0_, k2_, ↓reduceIte, and_self, and_true, true_and, and_false, false_and, or_self, or_true, true_or, or_false, false_or, not_true_eq_false, not_false_eq_true, eq_self, Int.reduceLE, Int.reduceLT, Int.reduceEq] <;> (repeat' split) <;> first | with_reducible rfl | with_reducible assumption | rfl | (exfalso; omega) | trivial | assumption) | ((try simp only [k0_, k2_] at c_3 c_4); (try simp only [c_3, c_4, k0_, k2_, ↓reduceIte, and_self, and_true, true_and, and_false, false_and, or_self, or_true, true_or, or_false, false_or, not_true_eq_false, not_false_eq_true, eq_self, Int.reduceLE, Int.reduceLT, Int.reduceEq, Classical.not_not] at hp_2 hp_10); simp only [ks_count, ob_q1 e_5, ob_pc e_5, ob_c1 e_5, ob_c2 e_5, ob_c3 e_5, ob_q5 e_5, ob_fc e_5, ob_q7 e_5, ob_mc e_5, ob_sl e_5 e_6, eo_6, cl_0, cl_1, cl_2, cl_4, cl_10, cl_13, cl_16, hp_2, hp_10, c_3, c_4, k0_, k2_, ↓reduceIte, and_self, and_true, true_and, and_false, false_and, or_self, or_true, true_or, or_false, false_or, not_true_eq_false, not_false_eq_true, eq_self, Int.reduceLE, Int.reduceLT, Int.reduceEq] <;> (repeat' split) <;> first | with_reducible rfl | with_reducible assumption | rfl | (exfalso; omega) | trivial | assumption) | (simp only [ks_count, ob_q1 e_5, ob_pc e_5, ob_c1 e_5, ob_c2 e_5, ob_c3 e_5, ob_q5 e_5, ob_fc e_5, ob_q7 e_5, ob_mc e_5, ob_sl e_5 e_6, eo_6, cl_0, cl_1, cl_2, cl_4, cl_10, cl_13, cl_16]; done) | (simp only [ks_count, ob_q1 e_5, ob_pc e_5, ob_c1 e_5, ob_c2 e_5, ob_c3 e_5, ob_q5 e_5, ob_fc e_5, ob_q7 e_5, ob_mc e_5, ob_sl e_5 e_6, eo_6, cl_0, cl_1, cl_2, cl_4, cl_10, cl_13, cl_16] <;> (repeat' split) <;> first | rfl | (exfalso; omega) | contradiction | (simp only [ks_count, ob_q1 e_5, ob_pc e_5, ob_c1 e_5, ob_c2 e_5, ob_c3 e_5, ob_q5 e_5, ob_fc e_5, ob_q7 e_5, ob_mc e_5, ob_sl e_5 e_6, eo_6, cl_0, cl_1, cl_2, cl_4, cl_10, cl_13, cl_16]; done) | (simp_all; done) | (simp_all; simp only [ks_count, ob_q1 e_5, ob_pc e_5, ob_c1 e_5, ob_c2 e_5, ob_c3 e_5, ob_q5 e_5, ob_fc e_5, ob_q7 e_5, ob_mc e_5, ob_sl e_5 e_6, eo_6, cl_0, cl_1, cl_2, cl_4, cl_10, cl_13, cl_16]))), trivial⟩, hS.F ht⟩) hS.2.2 dX2_count_55
      · have c_4 := mt Int32.le_iff_toInt_le.mpr c_4
        refine lv_ldc2 hx hb hown (hts (.constantLong RX2 55 (-1)) (by decide +kernel)) dX2_count_16 ?_
        exact W.lret (v := (-1)) hx hb hr (fun t ht hW => ⟨⟨(-1), (), rfl, (by first | ((try simp only [k0_, k2_] at c_3 c_4); simp only [ks_count, cl_0, cl_1, cl_2, cl_4, cl_10, cl_13, cl_16, ↓hp_2, c_3, c_4, k0_, k2_, ↓reduceIte, and_self, and_true, true_and, and_false, false_and, or_self, or_true, true_or, or_false, false_or, not_true_eq_false, not_false_eq_true, eq_self, Int.reduceLE, Int.reduceLT, Int.reduceEq]; done) | ((try simp only [k0_, k2_] at c_3 c_4); (try simp only [c_3, c_4, k0_, k2_, ↓reduceIte, and_self, and_true, true_and, and_false, false_and, or_self, or_true, true_or, or_false, false_or, not_true_eq_false, not_false_eq_true, eq_self, Int.reduceLE, Int.reduceLT, Int.reduceEq, Classical.not_not] at hp_2); simp only [ks_count, cl_0, cl_1, cl_2, cl_4, cl_10, cl_13, cl_16, hp_2, c_3, c_4, k0_, k2_, ↓reduceIte, and_self, and_true, true_and, and_false, false_and, or_self, or_true, true_or, or_false, false_or, not_true_eq_false, not_false_eq_true, eq_self, Int.reduceLE, Int.reduceLT, Int.reduceEq]; done) | exact absurd c_3 c_4 | exact absurd c_4 c_3 | ((try simp only [k0_, k2_] at c_3 c_4); simp only [ks_count, cl_0, cl_1, cl_2, cl_4, cl_10, cl_13, cl_16, ↓hp_2, c_3, c_4, k0_, k2_, ↓reduceIte, and_self, and_true, true_and, and_false, false_and, or_self, or_true, true_or, or_false, false_or, not_true_eq_false, not_false_eq_true, eq_self, Int.reduceLE, Int.reduceLT, Int.reduceEq] <;> (repeat' split) <;> first | with_reducible rfl | with_reducible assumption | rfl | (exfalso; omega) | trivial | assumption) | ((try simp only [k0_, k2_] at c_3 c_4); (try simp only [c_3, c_4, k0_, k2_, ↓reduceIte, and_self, and_true, true_and, and_false, false_and, or_self, or_true, true_or, or_false, false_or, not_true_eq_false, not_false_eq_true, eq_self, Int.reduceLE, Int.reduceLT, Int.reduceEq, Classical.not_not] at hp_2); simp only [ks_count, cl_0, cl_1, cl_2, cl_4, cl_10, cl_13, cl_16, hp_2, c_3, c_4, k0_, k2_, ↓reduceIte, and_self, and_true, true_and, and_false, false_and, or_self, or_true, true_or, or_false, false_or, not_true_eq_false, not_false_eq_true, eq_self, Int.reduceLE, Int.reduceLT, Int.reduceEq] <;> (repeat' split) <;> first | with_reducible rfl | with_reducible assumption | rfl | (exfalso; omega) | trivial | assumption) | (simp only [ks_count, cl_0, cl_1, cl_2, cl_4, cl_10, cl_13, cl_16]; done) | (simp only [ks_count, cl_0, cl_1, cl_2, cl_4, cl_10, cl_13, cl_16] <;> (repeat' split) <;> first | rfl | (exfalso; omega) | contradiction | (simp only [ks_count, cl_0, cl_1, cl_2, cl_4, cl_10, cl_13, cl_16]; done) | (simp_all; done) | (simp_all; simp only [ks_count, cl_0, cl_1, cl_2, cl_4, cl_10, cl_13, cl_16]))), trivial⟩, hS.F ht⟩) hS.2.2 dX2_count_19
  · refine lv_if_eq (tgt := 16) hx hb dX2_count_4 (by decide) (fun _ => ?_) (fun c9 => absurd c9 (by decide))
    refine lv_ldc2 hx hb hown (hts (.constantLong RX2 55 (-1)) (by decide +kernel)) dX2_count_16 ?_
    exact W.lret (v := (-1)) hx hb hr (fun t ht hW => ⟨⟨(-1), (), rfl, (by first | (simp only [ks_count, cl_0, cl_1, cl_2, cl_4, cl_10, cl_13, cl_16, ↓hp_2, k0_, k2_, ↓reduceIte, and_self, and_true, true_and, and_false, false_and, or_self, or_true, true_or, or_false, false_or, not_true_eq_false, not_false_eq_true, eq_self, Int.reduceLE, Int.reduceLT, Int.reduceEq]; done) | (simp only [ks_count, cl_0, cl_1, cl_2, cl_4, cl_10, cl_13, cl_16, ↓hp_2, k0_, k2_, ↓reduceIte, and_self, and_true, true_and, and_false, false_and, or_self, or_true, true_or, or_false, false_or, not_true_eq_false, not_false_eq_true, eq_self, Int.reduceLE, Int.reduceLT, Int.reduceEq] <;> (repeat' split) <;> first | with_reducible rfl | with_reducible assumption | rfl | (exfalso; omega) | trivial | assumption) | (simp only [ks_count, cl_0, cl_1, cl_2, cl_4, cl_10, cl_13, cl_16]; done) | (simp only [ks_count, cl_0, cl_1, cl_2, cl_4, cl_10, cl_13, cl_16] <;> (repeat' split) <;> first | rfl | (exfalso; omega) | contradiction | (simp only [ks_count, cl_0, cl_1, cl_2, cl_4, cl_10, cl_13, cl_16]; done) | (simp_all; done) | (simp_all; simp only [ks_count, cl_0, cl_1, cl_2, cl_4, cl_10, cl_13, cl_16]))), trivial⟩, hS.F ht⟩) hS.2.2 dX2_count_19
set_option maxRecDepth 20000 in
theorem in_u_X2_raise_X2 : ∀ w ∈ u_ws RX2 TX2 9, w ∈ wsX2_raise := by decide +kernel
set_option maxRecDepth 100000 in
set_option maxHeartbeats 4000000 in
theorem u_X2_raise (l : Launch) (dC : Nat → ClassId) (dI : Nat → Nat → Nat) (TT : Nat × Nat × Nat) (sz : Nat) (kT kI kJ : ClassId) (K : Nat → Nat) (L : List Nat) (f : Nat → va_E) (hPI : PI kT kI kJ K L f) (h0 : Nat) (hh0 : isr K L 2 h0) (p0 : Int32) : Met l yX2_raise wsX2_raise ({ frames := 3, cells := 0, slots := 0, locals := 63 } : Room) (va_Pc [.ref h0, .int p0] (pr dC dI (va_pl L f) [] [(kT, .object RX1), (kI, .int), (kJ, .long)] sz TT)) (va_Qi (fun (r : Int32) (u : Unit) => r = ks_raise (g_sl f h0) (g_cn f) (g_vl f) p0) (fun _ _ => True) (va_A [] sz)) 0 0 (va_A [] sz) := by
  refine Met.ofW (cc := cX2_raise) (maxL := 2) (ret := (some .int)) (by decide) rfl ?_
  intro p e s m args below meth c s₁ B hml hv
  obtain ⟨rfl, hsz, hP, hK, hD0, hst⟩ := hv
  have hx := B.exec
  have hb := B.bytes
  have hr := B.returns
  have hts := atoms_spec (ws := wsX2_raise) B.pre
  have hown : s.vm.findClass RX2 = some m.cls := findClass_of_methodNamed B.named
  have hlocks := B.notSynchronized
  have iX2_ := in_u_X2_raise_X2
  subst hsz
  have hD := hD0.self (sz := s.heap.size)
  generalize hAe : va_A [] s.heap.size = A at hD hst ⊢
  have hA : ∀ q : Nat, s.heap.size ≤ q → A q := fun q h => by rw [← hAe]; exact Or.inr h
  have hS : va_S A s.heap s.heap [] := va_S.rf
  have hl := lv_entry ([.ref h0, .int p0]) (n := 2) (Nat.le_of_ble_eq_true rfl)
  rw [lg_entry_eq]
  generalize (lg_sl ([.ref h0, .int p0]) ++ List.replicate (2 - (lg_sl ([.ref h0, .int p0])).length) Slot.unset).toArray = ls at hl ⊢
  have hl : lv_has ls 2 [(0, .ref h0), (1, .int p0)] := hl
  have km11_ : Int32.toInt (-11) = -11 := by decide
  have km1_ : Int32.toInt (-1) = -1 := by decide
  refine lv_iload_n hx hb dX2_raise_0 rfl (lv_at hl 1 rfl) ?_
  refine va_calli (va_runS (As := [.int p0]) (rest := []) ⟨hx, hb, hml, hown, hts⟩ (c_X2_isSlot l dC dI TT s.heap.size p0) (va_cwS 1 hts gX2_raise_X2_isSlot rfl rfl rfl (by decide +kernel) ⟨Nat.le_of_ble_eq_true rfl, Nat.le_of_ble_eq_true rfl⟩) (pr_S (ws := []) (wA := []) (tys := []) vp_nil (hK.sub [] rfl) vd_nil hst hS (ro_free hS hA)) rfl rfl hl.1 rfl (lv_room (Nat.le_of_ble_eq_true rfl)) dX2_raise_1 ⟨Nat.le_of_ble_eq_true rfl, Nat.le_of_ble_eq_true rfl⟩) hS (fun q _ h => (ro_free hS hA) q h) (ro_free hS hA) (fun r_1 u t H1 locs ht hvm hw hB hz1 hk1 hS => ?_)
  have hP := ro_keep hP hk1
  generalize H1 = H at hP hS ⊢
  rcases hw with ⟨rfl, hp_2⟩ | ⟨rfl, hp_2⟩
  · refine lv_if_eq (tgt := 19) hx hb dX2_raise_4 (by decide) (fun c9 => absurd c9 (by decide)) (fun _ => ?_)
    refine lv_aload_n hx hb dX2_raise_7 rfl (lv_at hl 0 rfl) ?_
    obtain ⟨q1_3, pc_3, c1_3, c2_3, c3_3, q5_3, fc_3, q7_3, mc_3, e_3, fq1_3, fc1_3, fc2_3, fc3_3, fq5_3, ffc_3, fq7_3, fmc_3⟩ := hPI.a2 hh0
    obtain ⟨k_3, hk_3⟩ := va_plg hh0.1 e_3
    refine va_get (D := (dC, dI)) (ci := 2) (v := .ref q1_3) (C := RX2) (T := TX2) (N := 9) hx hb hts iX2_ hown hK hP k_3 hk_3 rfl 0 (by decide) (hts (.fieldLink RX2 11 "FieldLeaves" "slots" "[LFieldLeaves$Thing;") (by decide +kernel)) (fun _ h9 => h9) rfl dX2_raise_8 ?_
    refine lv_iload_n hx hb dX2_raise_11 rfl (lv_at hl 1 rfl) ?_
    obtain ⟨g_4, e_4, fg_4⟩ := hPI.a5 fq1_3
    obtain ⟨k_4, hk_4⟩ := va_plg fq1_3.1 e_4
    have h_4 : vp_in p0 12 := (vp_in_iff.mpr (by constructor <;> omega))
    refine va_aldq hx hb hK hP k_4 0 hk_4 rfl h_4 dX2_raise_12 ?_
    have fo_4 := fg_4 _ (vp_lt h_4)
    generalize eo_4 : g_4 (Int32.toNatClampNeg p0) = o_4 at fo_4 ⊢
    rcases o_4 with _ | y_5
    · refine W.eq (g2 := F0 m 13 ls [.null]) rfl ?_
      refine va_calli (va_runS (As := [.null]) (rest := []) ⟨hx, hb, hml, hown, hts⟩ (c_X2_thrown_null l dC dI TT H.size ) (va_cwS 1 hts gX2_raise_X2_thrown rfl rfl rfl (by decide +kernel) ⟨Nat.le_of_ble_eq_true rfl, Nat.le_of_ble_eq_true rfl⟩) (pr_S (ws := []) (wA := []) (tys := []) vp_nil (hK.sub [] rfl) vd_nil hst hS (ro_free hS hA)) rfl rfl hl.1 rfl (lv_room (Nat.le_of_ble_eq_true rfl)) dX2_raise_13 ⟨Nat.le_of_ble_eq_true rfl, Nat.le_of_ble_eq_true rfl⟩) hS (fun q _ h => (ro_free hS hA) q h) (ro_free hS hA) (fun r_6 u t H1 locs ht hvm hw hB hz1 hk1 hS => ?_)
      have hP := ro_keep hP hk1
      generalize H1 = H at hP hS ⊢
      subst hw
      refine lv_goto (tgt := 20) hx hb dX2_raise_16 (by decide) ?_
      exact W.iret (v := (-11)) hx hb hr (fun t ht hW => ⟨⟨(-11), (), rfl, (by first | (simp only [ks_raise, ob_q1 e_3, ob_pc e_3, ob_c1 e_3, ob_c2 e_3, ob_c3 e_3, ob_q5 e_3, ob_fc e_3, ob_q7 e_3, ob_mc e_3, ob_sl e_3 e_4, eo_4, cl_0, cl_1, cl_2, cl_4, cl_10, cl_13, cl_16, ↓hp_2, km11_, km1_, ↓reduceIte, and_self, and_true, true_and, and_false, false_and, or_self, or_true, true_or, or_false, false_or, not_true_eq_false, not_false_eq_true, eq_self, Int.reduceLE, Int.reduceLT, Int.reduceEq]; done) | (simp only [ks_raise, ob_q1 e_3, ob_pc e_3, ob_c1 e_3, ob_c2 e_3, ob_c3 e_3, ob_q5 e_3, ob_fc e_3, ob_q7 e_3, ob_mc e_3, ob_sl e_3 e_4, eo_4, cl_0, cl_1, cl_2, cl_4, cl_10, cl_13, cl_16, ↓hp_2, km11_, km1_, ↓reduceIte, and_self, and_true, true_and, and_false, false_and, or_self, or_true, true_or, or_false, false_or, not_true_eq_false, not_false_eq_true, eq_self, Int.reduceLE, Int.reduceLT, Int.reduceEq] <;> (repeat' split) <;> first | with_reducible rfl | with_reducible assumption | rfl | (exfalso; omega) | trivial | assumption) | (simp only [ks_raise, ob_q1 e_3, ob_pc e_3, ob_c1 e_3, ob_c2 e_3, ob_c3 e_3, ob_q5 e_3, ob_fc e_3, ob_q7 e_3, ob_mc e_3, ob_sl e_3 e_4, eo_4, cl_0, cl_1, cl_2, cl_4, cl_10, cl_13, cl_16]; done) | (simp only [ks_raise, ob_q1 e_3, ob_pc e_3, ob_c1 e_3, ob_c2 e_3, ob_c3 e_3, ob_q5 e_3, ob_fc e_3, ob_q7 e_3, ob_mc e_3, ob_sl e_3 e_4, eo_4, cl_0, cl_1, cl_2, cl_4, cl_10, cl_13, cl_16] <;> (repeat' split) <;> first | rfl | (exfalso; omega) | contradiction | (simp only [ks_raise, ob_q1 e_3, ob_pc e_3, ob_c1 e_3, ob_c2 e_3, ob_c3 e_3, ob_q5 e_3, ob_fc e_3, ob_q7 e_3, ob_mc e_3, ob_sl e_3 e_4, eo_4, cl_0, cl_1, cl_2, cl_4, cl_10, cl_13, cl_16]; done) | (simp_all; done) | (simp_all; simp only [ks_raise, ob_q1 e_3, ob_pc e_3, ob_c1 e_3, ob_c2 e_3, ob_c3 e_3, ob_q5 e_3, ob_fc e_3, ob_q7 e_3, ob_mc e_3, ob_sl e_3 e_4, eo_4, cl_0, cl_1, cl_2, cl_4, cl_10, cl_13, cl_16]))), trivial⟩, hS.F ht⟩) hS.2.2 dX2_raise_20
    · have fy_5 := fo_4 y_5 rfl
      refine W.eq (g2 := F0 m 13 ls [.ref y_5]) rfl ?_
      refine va_calli (va_runS (As := [.ref y_5]) (rest := []) ⟨hx, hb, hml, hown, hts⟩ (u_X2_thrown l dC dI TT H.size kT kI kJ K L f hPI y_5 fy_5 ) (va_cwS 1 hts gX2_raise_X2_thrown rfl rfl rfl (by decide +kernel) ⟨Nat.le_of_ble_eq_true rfl, Nat.le_of_ble_eq_true rfl⟩) (pr_S (ws := va_pl L f) (wA := []) (tys := [(kT, .object RX1), (kI, .int), (kJ, .long)]) hP hK vd_nil hst hS (ro_free hS hA)) rfl rfl hl.1 rfl (lv_room (Nat.le_of_ble_eq_true rfl)) dX2_raise_13 ⟨Nat.le_of_ble_eq_true rfl, Nat.le_of_ble_eq_true rfl⟩) hS (fun q _ h => (ro_free hS hA) q h) (ro_free hS hA) (fun r_7 u t H1 locs ht hvm hw hB hz1 hk1 hS => ?_)
      have hP := ro_keep hP hk1
      generalize H1 = H at hP hS ⊢
      have hq_8 := hw
      refine lv_goto (tgt := 20) hx hb dX2_raise_16 (by decide) ?_
      exact W.iret (v := r_7) hx hb hr (fun t ht hW => ⟨⟨r_7, (), rfl, (by have hdhq_8 := congrArg Int32.toInt hq_8; first | (simp only [ks_raise, ob_q1 e_3, ob_pc e_3, ob_c1 e_3, ob_c2 e_3, ob_c3 e_3, ob_q5 e_3, ob_fc e_3, ob_q7 e_3, ob_mc e_3, ob_sl e_3 e_4, eo_4, hq_8, cl_0, cl_1, cl_2, cl_4, cl_10, cl_13, cl_16]; done) | (simp only [ks_raise, ob_q1 e_3, ob_pc e_3, ob_c1 e_3, ob_c2 e_3, ob_c3 e_3, ob_q5 e_3, ob_fc e_3, ob_q7 e_3, ob_mc e_3, ob_sl e_3 e_4, eo_4, hq_8, cl_0, cl_1, cl_2, cl_4, cl_10, cl_13, cl_16] <;> (repeat' split) <;> first | rfl | (exfalso; omega) | contradiction | (simp only [ks_raise, ob_q1 e_3, ob_pc e_3, ob_c1 e_3, ob_c2 e_3, ob_c3 e_3, ob_q5 e_3, ob_fc e_3, ob_q7 e_3, ob_mc e_3, ob_sl e_3 e_4, eo_4, hq_8, cl_0, cl_1, cl_2, cl_4, cl_10, cl_13, cl_16]; done) | (simp_all; done) | (simp_all; simp only [ks_raise, ob_q1 e_3, ob_pc e_3, ob_c1 e_3, ob_c2 e_3, ob_c3 e_3, ob_q5 e_3, ob_fc e_3, ob_q7 e_3, ob_mc e_3, ob_sl e_3 e_4, eo_4, hq_8, cl_0, cl_1, cl_2, cl_4, cl_10, cl_13, cl_16]))), trivial⟩, hS.F ht⟩) hS.2.2 dX2_raise_20
  · refine lv_if_eq (tgt := 19) hx hb dX2_raise_4 (by decide) (fun _ => ?_) (fun c9 => absurd c9 (by decide))
    refine lv_iconst (v := (-1)) hx hb dX2_raise_19 (by decide) ?_
    exact W.iret (v := (-1)) hx hb hr (fun t ht hW => ⟨⟨(-1), (), rfl, (by first | (simp only [ks_raise, cl_0, cl_1, cl_2, cl_4, cl_10, cl_13, cl_16, ↓hp_2, km11_, km1_, ↓reduceIte, and_self, and_true, true_and, and_false, false_and, or_self, or_true, true_or, or_false, false_or, not_true_eq_false, not_false_eq_true, eq_self, Int.reduceLE, Int.reduceLT, Int.reduceEq]; done) | (simp only [ks_raise, cl_0, cl_1, cl_2, cl_4, cl_10, cl_13, cl_16, ↓hp_2, km11_, km1_, ↓reduceIte, and_self, and_true, true_and, and_false, false_and, or_self, or_true, true_or, or_false, false_or, not_true_eq_false, not_false_eq_true, eq_self, Int.reduceLE, Int.reduceLT, Int.reduceEq] <;> (repeat' split) <;> first | with_reducible rfl | with_reducible assumption | rfl | (exfalso; omega) | trivial | assumption) | (simp only [ks_raise, cl_0, cl_1, cl_2, cl_4, cl_10, cl_13, cl_16]; done) | (simp only [ks_raise, cl_0, cl_1, cl_2, cl_4, cl_10, cl_13, cl_16] <;> (repeat' split) <;> first | rfl | (exfalso; omega) | contradiction | (simp only [ks_raise, cl_0, cl_1, cl_2, cl_4, cl_10, cl_13, cl_16]; done) | (simp_all; done) | (simp_all; simp only [ks_raise, cl_0, cl_1, cl_2, cl_4, cl_10, cl_13, cl_16]))), trivial⟩, hS.F ht⟩) hS.2.2 dX2_raise_20
set_option maxRecDepth 20000 in
theorem in_u_X2_passed_X2 : ∀ w ∈ u_ws RX2 TX2 9, w ∈ wsX2_passed := by decide +kernel
set_option maxRecDepth 100000 in
set_option maxHeartbeats 4000000 in
theorem u_X2_passed (l : Launch) (dC : Nat → ClassId) (dI : Nat → Nat → Nat) (TT : Nat × Nat × Nat) (sz : Nat) (kT kI kJ : ClassId) (K : Nat → Nat) (L : List Nat) (f : Nat → va_E) (hPI : PI kT kI kJ K L f) (h0 : Nat) (hh0 : isr K L 2 h0)  : Met l yX2_passed wsX2_passed ({ frames := 0, cells := 0, slots := 0, locals := 0 } : Room) (va_Pc [.ref h0] (pr dC dI (va_pl L f) [] [(kT, .object RX1), (kI, .int), (kJ, .long)] sz TT)) (va_Qi (fun (r : Int32) (u : Unit) => r = cI (f h0) 1) (fun _ _ => True) (va_A [] sz)) 0 0 (va_A [] sz) := by
  refine Met.ofW (cc := cX2_passed) (maxL := 1) (ret := (some .int)) (by decide) rfl ?_
  intro p e s m args below meth c s₁ B hml hv
  obtain ⟨rfl, hsz, hP, hK, hD0, hst⟩ := hv
  have hx := B.exec
  have hb := B.bytes
  have hr := B.returns
  have hts := atoms_spec (ws := wsX2_passed) B.pre
  have hown : s.vm.findClass RX2 = some m.cls := findClass_of_methodNamed B.named
  have hlocks := B.notSynchronized
  have iX2_ := in_u_X2_passed_X2
  subst hsz
  have hD := hD0.self (sz := s.heap.size)
  generalize hAe : va_A [] s.heap.size = A at hD hst ⊢
  have hA : ∀ q : Nat, s.heap.size ≤ q → A q := fun q h => by rw [← hAe]; exact Or.inr h
  have hS : va_S A s.heap s.heap [] := va_S.rf
  have hl := lv_entry ([.ref h0]) (n := 1) (Nat.le_of_ble_eq_true rfl)
  rw [lg_entry_eq]
  generalize (lg_sl ([.ref h0]) ++ List.replicate (1 - (lg_sl ([.ref h0])).length) Slot.unset).toArray = ls at hl ⊢
  have hl : lv_has ls 1 [(0, .ref h0)] := hl
  refine lv_aload_n hx hb dX2_passed_0 rfl (lv_at hl 0 rfl) ?_
  obtain ⟨q1_1, pc_1, c1_1, c2_1, c3_1, q5_1, fc_1, q7_1, mc_1, e_1, fq1_1, fc1_1, fc2_1, fc3_1, fq5_1, ffc_1, fq7_1, fmc_1⟩ := hPI.a2 hh0
  obtain ⟨k_1, hk_1⟩ := va_plg hh0.1 e_1
  refine va_get (D := (dC, dI)) (ci := 2) (v := .int pc_1) (C := RX2) (T := TX2) (N := 9) hx hb hts iX2_ hown hK hP k_1 hk_1 rfl 1 (by decide) (hts (.fieldLink RX2 121 "FieldLeaves" "passedCount" "I") (by decide +kernel)) (fun _ h9 => h9) rfl dX2_passed_1 ?_
  exact W.iret (v := pc_1) hx hb hr (fun t ht hW => ⟨⟨pc_1, (), rfl, (by first | (simp only [ob_q1 e_1, ob_pc e_1, ob_c1 e_1, ob_c2 e_1, ob_c3 e_1, ob_q5 e_1, ob_fc e_1, ob_q7 e_1, ob_mc e_1, cl_0, cl_1, cl_2, cl_4, cl_10, cl_13, cl_16, ↓reduceIte, and_self, and_true, true_and, and_false, false_and, or_self, or_true, true_or, or_false, false_or, not_true_eq_false, not_false_eq_true, eq_self, Int.reduceLE, Int.reduceLT, Int.reduceEq]; done) | (simp only [ob_q1 e_1, ob_pc e_1, ob_c1 e_1, ob_c2 e_1, ob_c3 e_1, ob_q5 e_1, ob_fc e_1, ob_q7 e_1, ob_mc e_1, cl_0, cl_1, cl_2, cl_4, cl_10, cl_13, cl_16, ↓reduceIte, and_self, and_true, true_and, and_false, false_and, or_self, or_true, true_or, or_false, false_or, not_true_eq_false, not_false_eq_true, eq_self, Int.reduceLE, Int.reduceLT, Int.reduceEq] <;> (repeat' split) <;> first | with_reducible rfl | with_reducible assumption | rfl | (exfalso; omega) | trivial | assumption) | (simp only [ob_q1 e_1, ob_pc e_1, ob_c1 e_1, ob_c2 e_1, ob_c3 e_1, ob_q5 e_1, ob_fc e_1, ob_q7 e_1, ob_mc e_1, cl_0, cl_1, cl_2, cl_4, cl_10, cl_13, cl_16]; done) | (simp only [ob_q1 e_1, ob_pc e_1, ob_c1 e_1, ob_c2 e_1, ob_c3 e_1, ob_q5 e_1, ob_fc e_1, ob_q7 e_1, ob_mc e_1, cl_0, cl_1, cl_2, cl_4, cl_10, cl_13, cl_16] <;> (repeat' split) <;> first | rfl | (exfalso; omega) | contradiction | (simp only [ob_q1 e_1, ob_pc e_1, ob_c1 e_1, ob_c2 e_1, ob_c3 e_1, ob_q5 e_1, ob_fc e_1, ob_q7 e_1, ob_mc e_1, cl_0, cl_1, cl_2, cl_4, cl_10, cl_13, cl_16]; done) | (simp_all; done) | (simp_all; simp only [ob_q1 e_1, ob_pc e_1, ob_c1 e_1, ob_c2 e_1, ob_c3 e_1, ob_q5 e_1, ob_fc e_1, ob_q7 e_1, ob_mc e_1, cl_0, cl_1, cl_2, cl_4, cl_10, cl_13, cl_16]))), trivial⟩, hS.F ht⟩) hS.2.2 dX2_passed_4
set_option maxRecDepth 20000 in
theorem in_u_X2_leaf_X0 : ∀ w ∈ u_ws RX0 TX0 4, w ∈ wsX2_leaf := by decide +kernel
set_option maxRecDepth 20000 in
theorem in_u_X2_leaf_X2 : ∀ w ∈ u_ws RX2 TX2 9, w ∈ wsX2_leaf := by decide +kernel
set_option maxRecDepth 100000 in
set_option maxHeartbeats 4000000 in
theorem u_X2_leaf (l : Launch) (dC : Nat → ClassId) (dI : Nat → Nat → Nat) (TT : Nat × Nat × Nat) (sz : Nat) (kT kI kJ : ClassId) (K : Nat → Nat) (L : List Nat) (f : Nat → va_E) (hPI : PI kT kI kJ K L f) (h0 : Nat) (hh0 : isr K L 2 h0) (p0 : Int32) (p1 : Int32) : Met l yX2_leaf wsX2_leaf ({ frames := 1, cells := 0, slots := 0, locals := 21 } : Room) (va_Pc [.ref h0, .int p0, .int p1] (pr dC dI (va_pl L f) [] [(kT, .object RX1), (kI, .int), (kJ, .long)] sz TT)) (va_Ql (fun (r : Int64) (u : Unit) => r = ks_leaf (l_z f (cP (f h0) 2)) (l_n f (cP (f h0) 2)) (l_d f (cP (f h0) 2)) (l_v f (cP (f h0) 2)) p0 p1) (fun _ _ => True) (va_A [] sz)) 0 0 (va_A [] sz) := by
  refine Met.ofW (cc := cX2_leaf) (maxL := 3) (ret := (some .long)) (by decide) rfl ?_
  intro p e s m args below meth c s₁ B hml hv
  obtain ⟨rfl, hsz, hP, hK, hD0, hst⟩ := hv
  have hx := B.exec
  have hb := B.bytes
  have hr := B.returns
  have hts := atoms_spec (ws := wsX2_leaf) B.pre
  have hown : s.vm.findClass RX2 = some m.cls := findClass_of_methodNamed B.named
  have hlocks := B.notSynchronized
  have iX0_ := in_u_X2_leaf_X0
  have iX2_ := in_u_X2_leaf_X2
  subst hsz
  have hD := hD0.self (sz := s.heap.size)
  generalize hAe : va_A [] s.heap.size = A at hD hst ⊢
  have hA : ∀ q : Nat, s.heap.size ≤ q → A q := fun q h => by rw [← hAe]; exact Or.inr h
  have hS : va_S A s.heap s.heap [] := va_S.rf
  have hl := lv_entry ([.ref h0, .int p0, .int p1]) (n := 3) (Nat.le_of_ble_eq_true rfl)
  rw [lg_entry_eq]
  generalize (lg_sl ([.ref h0, .int p0, .int p1]) ++ List.replicate (3 - (lg_sl ([.ref h0, .int p0, .int p1])).length) Slot.unset).toArray = ls at hl ⊢
  have hl : lv_has ls 3 [(0, .ref h0), (1, .int p0), (2, .int p1)] := hl
  have k0_ : Int32.toInt 0 = 0 := by decide
  have k1_ : Int32.toInt 1 = 1 := by decide
  have k2_ : Int32.toInt 2 = 2 := by decide
  have klm1_ : Int64.toInt (-1) = -1 := by decide
  refine lv_aload_n hx hb dX2_leaf_0 rfl (lv_at hl 0 rfl) ?_
  obtain ⟨q1_1, pc_1, c1_1, c2_1, c3_1, q5_1, fc_1, q7_1, mc_1, e_1, fq1_1, fc1_1, fc2_1, fc3_1, fq5_1, ffc_1, fq7_1, fmc_1⟩ := hPI.a2 hh0
  obtain ⟨k_1, hk_1⟩ := va_plg hh0.1 e_1
  refine va_get (D := (dC, dI)) (ci := 2) (v := .ref c1_1) (C := RX2) (T := TX2) (N := 9) hx hb hts iX2_ hown hK hP k_1 hk_1 rfl 2 (by decide) (hts (.fieldLink RX2 18 "FieldLeaves" "current" "LFieldLeaves$LeafList;") (by decide +kernel)) (fun _ h9 => h9) rfl dX2_leaf_1 ?_
  refine lv_iload_n hx hb dX2_leaf_4 rfl (lv_at hl 1 rfl) ?_
  obtain ⟨n_2, d_2, v_2, z_2, e_2, fn_2, fd_2, fv_2, fz_2⟩ := hPI.a0 fc1_1
  obtain ⟨k_2, hk_2⟩ := va_plg fc1_1.1 e_2
  refine va_calli (va_runV (b := c1_1) (As := [.int p0]) (rest := []) ⟨hx, hb, hml, hown, hts⟩ (u_X0_has l dC dI TT s.heap.size kT kI kJ K L f hPI c1_1 fc1_1 p0) (cwV 1 hts gX2_leaf_X0_has rfl rfl rfl (by decide +kernel) ⟨Nat.le_of_ble_eq_true rfl, Nat.le_of_ble_eq_true rfl⟩) ⟨pr_blind, va_recv hK hP (ci := 0) rfl hk_2, (pr_S (ws := va_pl L f) (wA := []) (tys := [(kT, .object RX1), (kI, .int), (kJ, .long)]) hP hK vd_nil hst hS (ro_free hS hA)).2⟩ rfl rfl hl.1 rfl (lv_room (Nat.le_of_ble_eq_true rfl)) dX2_leaf_5 ⟨Nat.le_of_ble_eq_true rfl, Nat.le_of_ble_eq_true rfl⟩) hS (fun q _ h => (ro_free hS hA) q h) (ro_free hS hA) (fun r_3 u t H1 locs ht hvm hw hB hz1 hk1 hS => ?_)
  have hP := ro_keep hP hk1
  generalize H1 = H at hP hS ⊢
  obtain ⟨hw, hw9⟩ := hw
  rcases hw with ⟨rfl, hp_4⟩ | ⟨rfl, hp_4⟩
  · have hw9 := hw9 rfl
    refine lv_if_eq (tgt := 20) hx hb dX2_leaf_8 (by decide) (fun c9 => absurd c9 (by decide)) (fun _ => ?_)
    refine lv_iload_n hx hb dX2_leaf_11 rfl (lv_at hl 2 rfl) ?_
    refine lv_if_lt (tgt := 20) hx hb dX2_leaf_12 (by decide) (fun c_5 => ?_) (fun c_5 => ?_)
    · have c_5 := Int32.lt_iff_toInt_lt.mp c_5
      refine lv_ldc2 hx hb hown (hts (.constantLong RX2 55 (-1)) (by decide +kernel)) dX2_leaf_20 ?_
      exact W.lret (v := (-1)) hx hb hr (fun t ht hW => ⟨⟨(-1), (), rfl, (by have hc1 := congrArg Int32.toInt (li_z e_2); first | (simp only [ks_leaf, ob_q1 e_1, ob_pc e_1, ob_c1 e_1, ob_c2 e_1, ob_c3 e_1, ob_q5 e_1, ob_fc e_1, ob_q7 e_1, ob_mc e_1, li_pn e_2, li_pd e_2, li_pv e_2, li_z e_2, cl_0, cl_1, cl_2, cl_4, cl_10, cl_13, cl_16]; done) | (simp only [ks_leaf, ob_q1 e_1, ob_pc e_1, ob_c1 e_1, ob_c2 e_1, ob_c3 e_1, ob_q5 e_1, ob_fc e_1, ob_q7 e_1, ob_mc e_1, li_pn e_2, li_pd e_2, li_pv e_2, li_z e_2, cl_0, cl_1, cl_2, cl_4, cl_10, cl_13, cl_16] <;> (repeat' split) <;> first | rfl | (exfalso; omega) | contradiction | (simp only [ks_leaf, ob_q1 e_1, ob_pc e_1, ob_c1 e_1, ob_c2 e_1, ob_c3 e_1, ob_q5 e_1, ob_fc e_1, ob_q7 e_1, ob_mc e_1, li_pn e_2, li_pd e_2, li_pv e_2, li_z e_2, cl_0, cl_1, cl_2, cl_4, cl_10, cl_13, cl_16]; done) | (simp_all; done) | (simp_all; simp only [ks_leaf, ob_q1 e_1, ob_pc e_1, ob_c1 e_1, ob_c2 e_1, ob_c3 e_1, ob_q5 e_1, ob_fc e_1, ob_q7 e_1, ob_mc e_1, li_pn e_2, li_pd e_2, li_pv e_2, li_z e_2, cl_0, cl_1, cl_2, cl_4, cl_10, cl_13, cl_16]))), trivial⟩, hS.F ht⟩) hS.2.2 dX2_leaf_23
    · have c_5 := mt Int32.lt_iff_toInt_lt.mpr c_5
      refine lv_iload_n hx hb dX2_leaf_15 rfl (lv_at hl 2 rfl) ?_
      refine lv_iconst (v := 2) hx hb dX2_leaf_16 (by decide) ?_
      refine lv_icmp_le (tgt := 24) hx hb dX2_leaf_17 (by decide) (fun c_6 => ?_) (fun c_6 => ?_)
      · have c_6 := Int32.le_iff_toInt_le.mp c_6
        refine lv_iload_n hx hb dX2_leaf_24 rfl (lv_at hl 2 rfl) ?_
        refine lv_if_ne (tgt := 39) hx hb dX2_leaf_25 (by decide) (fun c_7 => ?_) (fun c_7 => ?_)
        · have c_7 := mt Int32.toInt_inj.mp c_7
          refine lv_iload_n hx hb dX2_leaf_39 rfl (lv_at hl 2 rfl) ?_
          refine lv_iconst (v := 1) hx hb dX2_leaf_40 (by decide) ?_
          refine lv_icmp_ne (tgt := 57) hx hb dX2_leaf_41 (by decide) (fun c_8 => ?_) (fun c_8 => ?_)
          · have c_8 := mt Int32.toInt_inj.mp c_8
            refine lv_aload_n hx hb dX2_leaf_57 rfl (lv_at hl 0 rfl) ?_
            obtain ⟨k_9, hk_9⟩ := va_plg hh0.1 e_1
            refine va_get (D := (dC, dI)) (ci := 2) (v := .ref c1_1) (C := RX2) (T := TX2) (N := 9) hx hb hts iX2_ hown hK hP k_9 hk_9 rfl 2 (by decide) (hts (.fieldLink RX2 18 "FieldLeaves" "current" "LFieldLeaves$LeafList;") (by decide +kernel)) (fun _ h9 => h9) rfl dX2_leaf_58 ?_
            obtain ⟨k_10, hk_10⟩ := va_plg fc1_1.1 e_2
            refine va_get (D := (dC, dI)) (ci := 0) (v := .ref v_2) (C := RX0) (T := TX0) (N := 4) hx hb hts iX0_ hown hK hP k_10 hk_10 rfl 2 (by decide) (hts (.fieldLink RX2 140 "FieldLeaves$LeafList" "values" "[J") (by decide +kernel)) (fun _ h9 => h9) rfl dX2_leaf_61 ?_
            refine lv_iload_n hx hb dX2_leaf_64 rfl (lv_at hl 1 rfl) ?_
            obtain ⟨g_11, e_11⟩ := hPI.a8 fv_2
            obtain ⟨k_11, hk_11⟩ := va_plg fv_2.1 e_11
            have h_11 : vp_in p0 300 := (vp_in_iff.mpr (by constructor <;> omega))
            refine va_lald hx hb hK hP k_11 2 hk_11 rfl h_11 dX2_leaf_65 ?_
            refine lv_topl (fun z_11 ez_11 => ?_)
            exact W.lret (v := z_11) hx hb hr (fun t ht hW => ⟨⟨z_11, (), rfl, (by have hc1 := congrArg Int32.toInt (li_z e_2); first | (simp only [ks_leaf, ob_q1 e_1, ob_pc e_1, ob_c1 e_1, ob_c2 e_1, ob_c3 e_1, ob_q5 e_1, ob_fc e_1, ob_q7 e_1, ob_mc e_1, li_pn e_2, li_pd e_2, li_pv e_2, li_z e_2, li_v e_2 e_11, ez_11, cl_0, cl_1, cl_2, cl_4, cl_10, cl_13, cl_16]; done) | (simp only [ks_leaf, ob_q1 e_1, ob_pc e_1, ob_c1 e_1, ob_c2 e_1, ob_c3 e_1, ob_q5 e_1, ob_fc e_1, ob_q7 e_1, ob_mc e_1, li_pn e_2, li_pd e_2, li_pv e_2, li_z e_2, li_v e_2 e_11, ez_11, cl_0, cl_1, cl_2, cl_4, cl_10, cl_13, cl_16] <;> (repeat' split) <;> first | rfl | (exfalso; omega) | contradiction | (simp only [ks_leaf, ob_q1 e_1, ob_pc e_1, ob_c1 e_1, ob_c2 e_1, ob_c3 e_1, ob_q5 e_1, ob_fc e_1, ob_q7 e_1, ob_mc e_1, li_pn e_2, li_pd e_2, li_pv e_2, li_z e_2, li_v e_2 e_11, ez_11, cl_0, cl_1, cl_2, cl_4, cl_10, cl_13, cl_16]; done) | (simp_all; done) | (simp_all; simp only [ks_leaf, ob_q1 e_1, ob_pc e_1, ob_c1 e_1, ob_c2 e_1, ob_c3 e_1, ob_q5 e_1, ob_fc e_1, ob_q7 e_1, ob_mc e_1, li_pn e_2, li_pd e_2, li_pv e_2, li_z e_2, li_v e_2 e_11, ez_11, cl_0, cl_1, cl_2, cl_4, cl_10, cl_13, cl_16]))), trivial⟩, hS.F ht⟩) hS.2.2 dX2_leaf_66
          · have c_8 := congrArg Int32.toInt c_8
            refine lv_aload_n hx hb dX2_leaf_44 rfl (lv_at hl 0 rfl) ?_
            obtain ⟨k_12, hk_12⟩ := va_plg hh0.1 e_1
            refine va_get (D := (dC, dI)) (ci := 2) (v := .ref c1_1) (C := RX2) (T := TX2) (N := 9) hx hb hts iX2_ hown hK hP k_12 hk_12 rfl 2 (by decide) (hts (.fieldLink RX2 18 "FieldLeaves" "current" "LFieldLeaves$LeafList;") (by decide +kernel)) (fun _ h9 => h9) rfl dX2_leaf_45 ?_
            obtain ⟨k_13, hk_13⟩ := va_plg fc1_1.1 e_2
            refine va_get (D := (dC, dI)) (ci := 0) (v := .ref d_2) (C := RX0) (T := TX0) (N := 4) hx hb hts iX0_ hown hK hP k_13 hk_13 rfl 1 (by decide) (hts (.fieldLink RX2 137 "FieldLeaves$LeafList" "fields" "[I") (by decide +kernel)) (fun _ h9 => h9) rfl dX2_leaf_48 ?_
            refine lv_iload_n hx hb dX2_leaf_51 rfl (lv_at hl 1 rfl) ?_
            obtain ⟨g_14, e_14⟩ := hPI.a7 fd_2
            obtain ⟨k_14, hk_14⟩ := va_plg fd_2.1 e_14
            have h_14 : vp_in p0 300 := (vp_in_iff.mpr (by constructor <;> omega))
            refine va_iald hx hb hK hP k_14 1 hk_14 rfl h_14 dX2_leaf_52 ?_
            refine lv_topi (fun z_14 ez_14 => ?_)
            refine lv_i2l (v := Int32.toInt64 z_14) hx hb dX2_leaf_53 rfl ?_
            have k_z_15 := Int32.toInt_toInt64 z_14
            refine lv_goto (tgt := 66) hx hb dX2_leaf_54 (by decide) ?_
            exact W.lret (v := (Int32.toInt64 z_14)) hx hb hr (fun t ht hW => ⟨⟨(Int32.toInt64 z_14), (), rfl, (by have hc1 := congrArg Int32.toInt (li_z e_2); have hdez_14 := congrArg Int32.toInt ez_14; first | (simp only [ks_leaf, ob_q1 e_1, ob_pc e_1, ob_c1 e_1, ob_c2 e_1, ob_c3 e_1, ob_q5 e_1, ob_fc e_1, ob_q7 e_1, ob_mc e_1, li_pn e_2, li_pd e_2, li_pv e_2, li_z e_2, li_d e_2 e_14, ez_14, cl_0, cl_1, cl_2, cl_4, cl_10, cl_13, cl_16]; done) | (simp only [ks_leaf, ob_q1 e_1, ob_pc e_1, ob_c1 e_1, ob_c2 e_1, ob_c3 e_1, ob_q5 e_1, ob_fc e_1, ob_q7 e_1, ob_mc e_1, li_pn e_2, li_pd e_2, li_pv e_2, li_z e_2, li_d e_2 e_14, ez_14, cl_0, cl_1, cl_2, cl_4, cl_10, cl_13, cl_16] <;> (repeat' split) <;> first | rfl | (exfalso; omega) | contradiction | (simp only [ks_leaf, ob_q1 e_1, ob_pc e_1, ob_c1 e_1, ob_c2 e_1, ob_c3 e_1, ob_q5 e_1, ob_fc e_1, ob_q7 e_1, ob_mc e_1, li_pn e_2, li_pd e_2, li_pv e_2, li_z e_2, li_d e_2 e_14, ez_14, cl_0, cl_1, cl_2, cl_4, cl_10, cl_13, cl_16]; done) | (simp_all; done) | (simp_all; simp only [ks_leaf, ob_q1 e_1, ob_pc e_1, ob_c1 e_1, ob_c2 e_1, ob_c3 e_1, ob_q5 e_1, ob_fc e_1, ob_q7 e_1, ob_mc e_1, li_pn e_2, li_pd e_2, li_pv e_2, li_z e_2, li_d e_2 e_14, ez_14, cl_0, cl_1, cl_2, cl_4, cl_10, cl_13, cl_16]))), trivial⟩, hS.F ht⟩) hS.2.2 dX2_leaf_66
        · have c_7 := congrArg Int32.toInt c_7
          refine lv_aload_n hx hb dX2_leaf_28 rfl (lv_at hl 0 rfl) ?_
          obtain ⟨k_16, hk_16⟩ := va_plg hh0.1 e_1
          refine va_get (D := (dC, dI)) (ci := 2) (v := .ref c1_1) (C := RX2) (T := TX2) (N := 9) hx hb hts iX2_ hown hK hP k_16 hk_16 rfl 2 (by decide) (hts (.fieldLink RX2 18 "FieldLeaves" "current" "LFieldLeaves$LeafList;") (by decide +kernel)) (fun _ h9 => h9) rfl dX2_leaf_29 ?_
          obtain ⟨k_17, hk_17⟩ := va_plg fc1_1.1 e_2
          refine va_get (D := (dC, dI)) (ci := 0) (v := .ref n_2) (C := RX0) (T := TX0) (N := 4) hx hb hts iX0_ hown hK hP k_17 hk_17 rfl 0 (by decide) (hts (.fieldLink RX2 134 "FieldLeaves$LeafList" "numbers" "[I") (by decide +kernel)) (fun _ h9 => h9) rfl dX2_leaf_32 ?_
          refine lv_iload_n hx hb dX2_leaf_35 rfl (lv_at hl 1 rfl) ?_
          obtain ⟨g_18, e_18⟩ := hPI.a7 fn_2
          obtain ⟨k_18, hk_18⟩ := va_plg fn_2.1 e_18
          have h_18 : vp_in p0 300 := (vp_in_iff.mpr (by constructor <;> omega))
          refine va_iald hx hb hK hP k_18 1 hk_18 rfl h_18 dX2_leaf_36 ?_
          refine lv_topi (fun z_18 ez_18 => ?_)
          refine lv_i2l (v := Int32.toInt64 z_18) hx hb dX2_leaf_37 rfl ?_
          have k_z_19 := Int32.toInt_toInt64 z_18
          exact W.lret (v := (Int32.toInt64 z_18)) hx hb hr (fun t ht hW => ⟨⟨(Int32.toInt64 z_18), (), rfl, (by have hc1 := congrArg Int32.toInt (li_z e_2); have hdez_18 := congrArg Int32.toInt ez_18; first | (simp only [ks_leaf, ob_q1 e_1, ob_pc e_1, ob_c1 e_1, ob_c2 e_1, ob_c3 e_1, ob_q5 e_1, ob_fc e_1, ob_q7 e_1, ob_mc e_1, li_pn e_2, li_pd e_2, li_pv e_2, li_z e_2, li_n e_2 e_18, ez_18, cl_0, cl_1, cl_2, cl_4, cl_10, cl_13, cl_16]; done) | (simp only [ks_leaf, ob_q1 e_1, ob_pc e_1, ob_c1 e_1, ob_c2 e_1, ob_c3 e_1, ob_q5 e_1, ob_fc e_1, ob_q7 e_1, ob_mc e_1, li_pn e_2, li_pd e_2, li_pv e_2, li_z e_2, li_n e_2 e_18, ez_18, cl_0, cl_1, cl_2, cl_4, cl_10, cl_13, cl_16] <;> (repeat' split) <;> first | rfl | (exfalso; omega) | contradiction | (simp only [ks_leaf, ob_q1 e_1, ob_pc e_1, ob_c1 e_1, ob_c2 e_1, ob_c3 e_1, ob_q5 e_1, ob_fc e_1, ob_q7 e_1, ob_mc e_1, li_pn e_2, li_pd e_2, li_pv e_2, li_z e_2, li_n e_2 e_18, ez_18, cl_0, cl_1, cl_2, cl_4, cl_10, cl_13, cl_16]; done) | (simp_all; done) | (simp_all; simp only [ks_leaf, ob_q1 e_1, ob_pc e_1, ob_c1 e_1, ob_c2 e_1, ob_c3 e_1, ob_q5 e_1, ob_fc e_1, ob_q7 e_1, ob_mc e_1, li_pn e_2, li_pd e_2, li_pv e_2, li_z e_2, li_n e_2 e_18, ez_18, cl_0, cl_1, cl_2, cl_4, cl_10, cl_13, cl_16]))), trivial⟩, hS.F ht⟩) hS.2.2 dX2_leaf_38
      · have c_6 := mt Int32.le_iff_toInt_le.mpr c_6
        refine lv_ldc2 hx hb hown (hts (.constantLong RX2 55 (-1)) (by decide +kernel)) dX2_leaf_20 ?_
        exact W.lret (v := (-1)) hx hb hr (fun t ht hW => ⟨⟨(-1), (), rfl, (by have hc1 := congrArg Int32.toInt (li_z e_2); first | (simp only [ks_leaf, ob_q1 e_1, ob_pc e_1, ob_c1 e_1, ob_c2 e_1, ob_c3 e_1, ob_q5 e_1, ob_fc e_1, ob_q7 e_1, ob_mc e_1, li_pn e_2, li_pd e_2, li_pv e_2, li_z e_2, cl_0, cl_1, cl_2, cl_4, cl_10, cl_13, cl_16]; done) | (simp only [ks_leaf, ob_q1 e_1, ob_pc e_1, ob_c1 e_1, ob_c2 e_1, ob_c3 e_1, ob_q5 e_1, ob_fc e_1, ob_q7 e_1, ob_mc e_1, li_pn e_2, li_pd e_2, li_pv e_2, li_z e_2, cl_0, cl_1, cl_2, cl_4, cl_10, cl_13, cl_16] <;> (repeat' split) <;> first | rfl | (exfalso; omega) | contradiction | (simp only [ks_leaf, ob_q1 e_1, ob_pc e_1, ob_c1 e_1, ob_c2 e_1, ob_c3 e_1, ob_q5 e_1, ob_fc e_1, ob_q7 e_1, ob_mc e_1, li_pn e_2, li_pd e_2, li_pv e_2, li_z e_2, cl_0, cl_1, cl_2, cl_4, cl_10, cl_13, cl_16]; done) | (simp_all; done) | (simp_all; simp only [ks_leaf, ob_q1 e_1, ob_pc e_1, ob_c1 e_1, ob_c2 e_1, ob_c3 e_1, ob_q5 e_1, ob_fc e_1, ob_q7 e_1, ob_mc e_1, li_pn e_2, li_pd e_2, li_pv e_2, li_z e_2, cl_0, cl_1, cl_2, cl_4, cl_10, cl_13, cl_16]))), trivial⟩, hS.F ht⟩) hS.2.2 dX2_leaf_23
  · refine lv_if_eq (tgt := 20) hx hb dX2_leaf_8 (by decide) (fun _ => ?_) (fun c9 => absurd c9 (by decide))
    refine lv_ldc2 hx hb hown (hts (.constantLong RX2 55 (-1)) (by decide +kernel)) dX2_leaf_20 ?_
    exact W.lret (v := (-1)) hx hb hr (fun t ht hW => ⟨⟨(-1), (), rfl, (by have hc1 := congrArg Int32.toInt (li_z e_2); first | (simp only [ks_leaf, ob_q1 e_1, ob_pc e_1, ob_c1 e_1, ob_c2 e_1, ob_c3 e_1, ob_q5 e_1, ob_fc e_1, ob_q7 e_1, ob_mc e_1, li_pn e_2, li_pd e_2, li_pv e_2, li_z e_2, cl_0, cl_1, cl_2, cl_4, cl_10, cl_13, cl_16]; done) | (simp only [ks_leaf, ob_q1 e_1, ob_pc e_1, ob_c1 e_1, ob_c2 e_1, ob_c3 e_1, ob_q5 e_1, ob_fc e_1, ob_q7 e_1, ob_mc e_1, li_pn e_2, li_pd e_2, li_pv e_2, li_z e_2, cl_0, cl_1, cl_2, cl_4, cl_10, cl_13, cl_16] <;> (repeat' split) <;> first | rfl | (exfalso; omega) | contradiction | (simp only [ks_leaf, ob_q1 e_1, ob_pc e_1, ob_c1 e_1, ob_c2 e_1, ob_c3 e_1, ob_q5 e_1, ob_fc e_1, ob_q7 e_1, ob_mc e_1, li_pn e_2, li_pd e_2, li_pv e_2, li_z e_2, cl_0, cl_1, cl_2, cl_4, cl_10, cl_13, cl_16]; done) | (simp_all; done) | (simp_all; simp only [ks_leaf, ob_q1 e_1, ob_pc e_1, ob_c1 e_1, ob_c2 e_1, ob_c3 e_1, ob_q5 e_1, ob_fc e_1, ob_q7 e_1, ob_mc e_1, li_pn e_2, li_pd e_2, li_pv e_2, li_z e_2, cl_0, cl_1, cl_2, cl_4, cl_10, cl_13, cl_16]))), trivial⟩, hS.F ht⟩) hS.2.2 dX2_leaf_23

