set_option maxRecDepth 20000 in
theorem in_u_X1_isOf_X1 : ∀ w ∈ u_ws RX1 TX1 6, w ∈ wsX1_isOf := by decide +kernel
set_option maxRecDepth 100000 in
set_option maxHeartbeats 4000000 in
theorem u_X1_isOf (l : Launch) (dC : Nat → ClassId) (dI : Nat → Nat → Nat) (TT : Nat × Nat × Nat) (sz : Nat) (kT kI kJ : ClassId) (K : Nat → Nat) (L : List Nat) (f : Nat → va_E) (hPI : PI kT kI kJ K L f) (x0 : Nat) (hx0 : isr K L 1 x0) (w0 : Int32) : Met l yX1_isOf wsX1_isOf ({ frames := 0, cells := 0, slots := 0, locals := 0 } : Room) (va_Pc [.ref x0, .int w0] (pr dC dI (va_pl L f) [] [(kT, .object RX1), (kI, .int), (kJ, .long)] sz TT)) (va_Qi (fun (r : Int32) (u : Unit) => bo r ((w0.toInt = 5 ∧ ¬ (g_cn f x0).toInt = 4) ∨ (¬ w0.toInt = 5 ∧ w0.toInt ≤ 2 ∧ w0.toInt ≤ (g_cn f x0).toInt ∧ (g_cn f x0).toInt ≤ 2) ∨ (¬ w0.toInt = 5 ∧ ¬ w0.toInt ≤ 2 ∧ (g_cn f x0).toInt = w0.toInt))) (fun _ _ => True) (va_A [] sz)) 0 0 (va_A [] sz) := by
  refine Met.ofW (cc := cX1_isOf) (maxL := 2) (ret := (some .boolean)) (by decide) rfl ?_
  intro p e s m args below meth c s₁ B hml hv
  obtain ⟨rfl, hsz, hP, hK, hD0, hst⟩ := hv
  have hx := B.exec
  have hb := B.bytes
  have hr := B.returns
  have hts := atoms_spec (ws := wsX1_isOf) B.pre
  have hown : s.vm.findClass RX1 = some m.cls := findClass_of_methodNamed B.named
  have hlocks := B.notSynchronized
  have iX1_ := in_u_X1_isOf_X1
  subst hsz
  have hD := hD0.self (sz := s.heap.size)
  generalize hAe : va_A [] s.heap.size = A at hD hst ⊢
  have hA : ∀ q : Nat, s.heap.size ≤ q → A q := fun q h => by rw [← hAe]; exact Or.inr h
  have hS : va_S A s.heap s.heap [] := va_S.rf
  have hl := lv_entry ([.ref x0, .int w0]) (n := 2) (Nat.le_of_ble_eq_true rfl)
  rw [lg_entry_eq]
  generalize (lg_sl ([.ref x0, .int w0]) ++ List.replicate (2 - (lg_sl ([.ref x0, .int w0])).length) Slot.unset).toArray = ls at hl ⊢
  have hl : lv_has ls 2 [(0, .ref x0), (1, .int w0)] := hl
  have k0_ : Int32.toInt 0 = 0 := by decide
  have k1_ : Int32.toInt 1 = 1 := by decide
  have k2_ : Int32.toInt 2 = 2 := by decide
  have k4_ : Int32.toInt 4 = 4 := by decide
  have k5_ : Int32.toInt 5 = 5 := by decide
  refine lv_iload_n hx hb dX1_isOf_0 rfl (lv_at hl 1 rfl) ?_
  refine lv_iconst (v := 5) hx hb dX1_isOf_1 (by decide) ?_
  refine lv_icmp_ne (tgt := 19) hx hb dX1_isOf_2 (by decide) (fun c_1 => ?_) (fun c_1 => ?_)
  · have c_1 := mt Int32.toInt_inj.mp c_1
    refine lv_iload_n hx hb dX1_isOf_19 rfl (lv_at hl 1 rfl) ?_
    refine lv_iconst (v := 2) hx hb dX1_isOf_20 (by decide) ?_
    refine lv_icmp_gt (tgt := 46) hx hb dX1_isOf_21 (by decide) (fun c_2 => ?_) (fun c_2 => ?_)
    · have c_2 := Int32.lt_iff_toInt_lt.mp c_2
      refine lv_aload_n hx hb dX1_isOf_46 rfl (lv_at hl 0 rfl) ?_
      obtain ⟨cn_3, v_3, b_3, m_3, st_3, i_3, e_3, fv_3, fb_3, fm_3, fst_3, fi_3⟩ := hPI.a1 hx0
      obtain ⟨k_3, hk_3⟩ := va_plg hx0.1 e_3
      refine va_get (D := (dC, dI)) (ci := 1) (v := .int cn_3) (C := RX1) (T := TX1) (N := 6) hx hb hts iX1_ hown hK hP k_3 hk_3 rfl 0 (by decide) (hts (.fieldLink RX1 15 "FieldLeaves$Thing" "classNumber" "I") (by decide +kernel)) (fun _ h9 => h9) rfl dX1_isOf_47 ?_
      refine lv_iload_n hx hb dX1_isOf_50 rfl (lv_at hl 1 rfl) ?_
      refine lv_icmp_ne (tgt := 58) hx hb dX1_isOf_51 (by decide) (fun c_4 => ?_) (fun c_4 => ?_)
      · have c_4 := mt Int32.toInt_inj.mp c_4
        refine lv_iconst (v := 0) hx hb dX1_isOf_58 (by decide) ?_
        exact W.zret (v := 0) hx hb hr rfl (fun t ht hW => ⟨⟨0, (), rfl, Or.inr ⟨rfl, (by have hc0 := congrArg Int32.toInt (th_cn e_3); first | omega | (simp only [th_cn e_3, th_pv e_3, th_b e_3, th_m e_3, th_s e_3, th_lk e_3, cl_0, cl_1, cl_2, cl_4, cl_10, cl_13, cl_16]; omega))⟩, trivial⟩, hS.F ht⟩) hS.2.2 dX1_isOf_59
      · have c_4 := congrArg Int32.toInt c_4
        refine lv_iconst (v := 1) hx hb dX1_isOf_54 (by decide) ?_
        refine lv_goto (tgt := 59) hx hb dX1_isOf_55 (by decide) ?_
        exact W.zret (v := 1) hx hb hr rfl (fun t ht hW => ⟨⟨1, (), rfl, Or.inl ⟨rfl, (by have hc0 := congrArg Int32.toInt (th_cn e_3); first | omega | (simp only [th_cn e_3, th_pv e_3, th_b e_3, th_m e_3, th_s e_3, th_lk e_3, cl_0, cl_1, cl_2, cl_4, cl_10, cl_13, cl_16]; omega))⟩, trivial⟩, hS.F ht⟩) hS.2.2 dX1_isOf_59
    · have c_2 := mt Int32.lt_iff_toInt_lt.mpr c_2
      refine lv_aload_n hx hb dX1_isOf_24 rfl (lv_at hl 0 rfl) ?_
      obtain ⟨cn_5, v_5, b_5, m_5, st_5, i_5, e_5, fv_5, fb_5, fm_5, fst_5, fi_5⟩ := hPI.a1 hx0
      obtain ⟨k_5, hk_5⟩ := va_plg hx0.1 e_5
      refine va_get (D := (dC, dI)) (ci := 1) (v := .int cn_5) (C := RX1) (T := TX1) (N := 6) hx hb hts iX1_ hown hK hP k_5 hk_5 rfl 0 (by decide) (hts (.fieldLink RX1 15 "FieldLeaves$Thing" "classNumber" "I") (by decide +kernel)) (fun _ h9 => h9) rfl dX1_isOf_25 ?_
      refine lv_iload_n hx hb dX1_isOf_28 rfl (lv_at hl 1 rfl) ?_
      refine lv_icmp_lt (tgt := 44) hx hb dX1_isOf_29 (by decide) (fun c_6 => ?_) (fun c_6 => ?_)
      · have c_6 := Int32.lt_iff_toInt_lt.mp c_6
        refine lv_iconst (v := 0) hx hb dX1_isOf_44 (by decide) ?_
        exact W.zret (v := 0) hx hb hr rfl (fun t ht hW => ⟨⟨0, (), rfl, Or.inr ⟨rfl, (by have hc0 := congrArg Int32.toInt (th_cn e_5); first | omega | (simp only [th_cn e_5, th_pv e_5, th_b e_5, th_m e_5, th_s e_5, th_lk e_5, cl_0, cl_1, cl_2, cl_4, cl_10, cl_13, cl_16]; omega))⟩, trivial⟩, hS.F ht⟩) hS.2.2 dX1_isOf_45
      · have c_6 := mt Int32.lt_iff_toInt_lt.mpr c_6
        refine lv_aload_n hx hb dX1_isOf_32 rfl (lv_at hl 0 rfl) ?_
        obtain ⟨k_7, hk_7⟩ := va_plg hx0.1 e_5
        refine va_get (D := (dC, dI)) (ci := 1) (v := .int cn_5) (C := RX1) (T := TX1) (N := 6) hx hb hts iX1_ hown hK hP k_7 hk_7 rfl 0 (by decide) (hts (.fieldLink RX1 15 "FieldLeaves$Thing" "classNumber" "I") (by decide +kernel)) (fun _ h9 => h9) rfl dX1_isOf_33 ?_
        refine lv_iconst (v := 2) hx hb dX1_isOf_36 (by decide) ?_
        refine lv_icmp_gt (tgt := 44) hx hb dX1_isOf_37 (by decide) (fun c_8 => ?_) (fun c_8 => ?_)
        · have c_8 := Int32.lt_iff_toInt_lt.mp c_8
          refine lv_iconst (v := 0) hx hb dX1_isOf_44 (by decide) ?_
          exact W.zret (v := 0) hx hb hr rfl (fun t ht hW => ⟨⟨0, (), rfl, Or.inr ⟨rfl, (by have hc0 := congrArg Int32.toInt (th_cn e_5); first | omega | (simp only [th_cn e_5, th_pv e_5, th_b e_5, th_m e_5, th_s e_5, th_lk e_5, cl_0, cl_1, cl_2, cl_4, cl_10, cl_13, cl_16]; omega))⟩, trivial⟩, hS.F ht⟩) hS.2.2 dX1_isOf_45
        · have c_8 := mt Int32.lt_iff_toInt_lt.mpr c_8
          refine lv_iconst (v := 1) hx hb dX1_isOf_40 (by decide) ?_
          refine lv_goto (tgt := 45) hx hb dX1_isOf_41 (by decide) ?_
          exact W.zret (v := 1) hx hb hr rfl (fun t ht hW => ⟨⟨1, (), rfl, Or.inl ⟨rfl, (by have hc0 := congrArg Int32.toInt (th_cn e_5); first | omega | (simp only [th_cn e_5, th_pv e_5, th_b e_5, th_m e_5, th_s e_5, th_lk e_5, cl_0, cl_1, cl_2, cl_4, cl_10, cl_13, cl_16]; omega))⟩, trivial⟩, hS.F ht⟩) hS.2.2 dX1_isOf_45
  · have c_1 := congrArg Int32.toInt c_1
    refine lv_aload_n hx hb dX1_isOf_5 rfl (lv_at hl 0 rfl) ?_
    obtain ⟨cn_9, v_9, b_9, m_9, st_9, i_9, e_9, fv_9, fb_9, fm_9, fst_9, fi_9⟩ := hPI.a1 hx0
    obtain ⟨k_9, hk_9⟩ := va_plg hx0.1 e_9
    refine va_get (D := (dC, dI)) (ci := 1) (v := .int cn_9) (C := RX1) (T := TX1) (N := 6) hx hb hts iX1_ hown hK hP k_9 hk_9 rfl 0 (by decide) (hts (.fieldLink RX1 15 "FieldLeaves$Thing" "classNumber" "I") (by decide +kernel)) (fun _ h9 => h9) rfl dX1_isOf_6 ?_
    refine lv_iconst (v := 4) hx hb dX1_isOf_9 (by decide) ?_
    refine lv_icmp_eq (tgt := 17) hx hb dX1_isOf_10 (by decide) (fun c_10 => ?_) (fun c_10 => ?_)
    · have c_10 := congrArg Int32.toInt c_10
      refine lv_iconst (v := 0) hx hb dX1_isOf_17 (by decide) ?_
      exact W.zret (v := 0) hx hb hr rfl (fun t ht hW => ⟨⟨0, (), rfl, Or.inr ⟨rfl, (by have hc0 := congrArg Int32.toInt (th_cn e_9); first | omega | (simp only [th_cn e_9, th_pv e_9, th_b e_9, th_m e_9, th_s e_9, th_lk e_9, cl_0, cl_1, cl_2, cl_4, cl_10, cl_13, cl_16]; omega))⟩, trivial⟩, hS.F ht⟩) hS.2.2 dX1_isOf_18
    · have c_10 := mt Int32.toInt_inj.mp c_10
      refine lv_iconst (v := 1) hx hb dX1_isOf_13 (by decide) ?_
      refine lv_goto (tgt := 18) hx hb dX1_isOf_14 (by decide) ?_
      exact W.zret (v := 1) hx hb hr rfl (fun t ht hW => ⟨⟨1, (), rfl, Or.inl ⟨rfl, (by have hc0 := congrArg Int32.toInt (th_cn e_9); first | omega | (simp only [th_cn e_9, th_pv e_9, th_b e_9, th_m e_9, th_s e_9, th_lk e_9, cl_0, cl_1, cl_2, cl_4, cl_10, cl_13, cl_16]; omega))⟩, trivial⟩, hS.F ht⟩) hS.2.2 dX1_isOf_18
set_option maxRecDepth 20000 in
theorem in_u_X1_held_X1 : ∀ w ∈ u_ws RX1 TX1 6, w ∈ wsX1_held := by decide +kernel
set_option maxRecDepth 100000 in
set_option maxHeartbeats 4000000 in
theorem u_X1_held (l : Launch) (dC : Nat → ClassId) (dI : Nat → Nat → Nat) (TT : Nat × Nat × Nat) (sz : Nat) (kT kI kJ : ClassId) (K : Nat → Nat) (L : List Nat) (f : Nat → va_E) (hPI : PI kT kI kJ K L f) (x0 : Nat) (hx0 : isr K L 1 x0) (w0 : Int32) : Met l yX1_held wsX1_held ({ frames := 0, cells := 0, slots := 0, locals := 0 } : Room) (va_Pc [.ref x0, .int w0] (pr dC dI (va_pl L f) [] [(kT, .object RX1), (kI, .int), (kJ, .long)] sz TT)) (va_Qq (fun (r : Option Nat) (u : Unit) => opr K L 1 r ∧ r = g_lk f x0 w0.toInt) (fun _ _ => True) (va_A [] sz)) 0 0 (va_A [] sz) := by
  refine Met.ofW (cc := cX1_held) (maxL := 2) (ret := (some (.object "FieldLeaves$Thing"))) (by decide) rfl ?_
  intro p e s m args below meth c s₁ B hml hv
  obtain ⟨rfl, hsz, hP, hK, hD0, hst⟩ := hv
  have hx := B.exec
  have hb := B.bytes
  have hr := B.returns
  have hts := atoms_spec (ws := wsX1_held) B.pre
  have hown : s.vm.findClass RX1 = some m.cls := findClass_of_methodNamed B.named
  have hlocks := B.notSynchronized
  have iX1_ := in_u_X1_held_X1
  subst hsz
  have hD := hD0.self (sz := s.heap.size)
  generalize hAe : va_A [] s.heap.size = A at hD hst ⊢
  have hA : ∀ q : Nat, s.heap.size ≤ q → A q := fun q h => by rw [← hAe]; exact Or.inr h
  have hS : va_S A s.heap s.heap [] := va_S.rf
  have hl := lv_entry ([.ref x0, .int w0]) (n := 2) (Nat.le_of_ble_eq_true rfl)
  rw [lg_entry_eq]
  generalize (lg_sl ([.ref x0, .int w0]) ++ List.replicate (2 - (lg_sl ([.ref x0, .int w0])).length) Slot.unset).toArray = ls at hl ⊢
  have hl : lv_has ls 2 [(0, .ref x0), (1, .int w0)] := hl
  refine lv_iload_n hx hb dX1_held_0 rfl (lv_at hl 1 rfl) ?_
  have swp : True := trivial
  by_cases sv_1 : w0.toInt = 8
  · refine lv_lookup (off := 35) (tgt := 36) hx hb dX1_held_1 (by decide) (by rw [sv_1]; rfl) (by decide) ?_
    refine lv_aload_n hx hb dX1_held_36 rfl (lv_at hl 0 rfl) ?_
    obtain ⟨cn_2, v_2, b_2, m_2, st_2, i_2, e_2, fv_2, fb_2, fm_2, fst_2, fi_2⟩ := hPI.a1 hx0
    obtain ⟨k_2, hk_2⟩ := va_plg hx0.1 e_2
    refine va_get (D := (dC, dI)) (ci := 1) (v := va_rf b_2) (C := RX1) (T := TX1) (N := 6) hx hb hts iX1_ hown hK hP k_2 hk_2 rfl 2 (by decide) (hts (.fieldLink RX1 19 "FieldLeaves$Thing" "baseLink" "LFieldLeaves$Thing;") (by decide +kernel)) (fun _ h9 => h9) rfl dX1_held_37 ?_
    rcases b_2 with _ | y_3
    · refine W.eq (g2 := F0 m 40 ls [.null]) rfl ?_
      exact W.aret (v := va_rf none) hx hb hr (Or.inl ⟨_, rfl⟩) (va_rf_or _) (fun t ht hW => ⟨⟨none, (), rfl, ⟨(fun _ h9 => by cases h9), (by have hc0 := congrArg Int32.toInt (th_cn e_2); first | (simp only [g_lk, th_cn e_2, th_pv e_2, th_b e_2, th_m e_2, th_s e_2, th_lk e_2, cl_0, cl_1, cl_2, cl_4, cl_10, cl_13, cl_16]; done) | (simp only [g_lk, th_cn e_2, th_pv e_2, th_b e_2, th_m e_2, th_s e_2, th_lk e_2, cl_0, cl_1, cl_2, cl_4, cl_10, cl_13, cl_16] <;> (repeat' split) <;> first | rfl | (exfalso; omega) | contradiction | (simp only [g_lk, th_cn e_2, th_pv e_2, th_b e_2, th_m e_2, th_s e_2, th_lk e_2, cl_0, cl_1, cl_2, cl_4, cl_10, cl_13, cl_16]; done) | (simp_all; done) | (simp_all; simp only [g_lk, th_cn e_2, th_pv e_2, th_b e_2, th_m e_2, th_s e_2, th_lk e_2, cl_0, cl_1, cl_2, cl_4, cl_10, cl_13, cl_16])))⟩, trivial⟩, hS.F ht⟩) hS.2.2 dX1_held_40
    · have fy_3 := fb_2 y_3 rfl
      refine W.eq (g2 := F0 m 40 ls [.ref y_3]) rfl ?_
      exact W.aret (v := va_rf (some y_3)) hx hb hr (Or.inl ⟨_, rfl⟩) (va_rf_or _) (fun t ht hW => ⟨⟨(some y_3), (), rfl, ⟨(fun _ h9 => by cases h9; exact fy_3), (by have hc0 := congrArg Int32.toInt (th_cn e_2); first | (simp only [g_lk, th_cn e_2, th_pv e_2, th_b e_2, th_m e_2, th_s e_2, th_lk e_2, cl_0, cl_1, cl_2, cl_4, cl_10, cl_13, cl_16]; done) | (simp only [g_lk, th_cn e_2, th_pv e_2, th_b e_2, th_m e_2, th_s e_2, th_lk e_2, cl_0, cl_1, cl_2, cl_4, cl_10, cl_13, cl_16] <;> (repeat' split) <;> first | rfl | (exfalso; omega) | contradiction | (simp only [g_lk, th_cn e_2, th_pv e_2, th_b e_2, th_m e_2, th_s e_2, th_lk e_2, cl_0, cl_1, cl_2, cl_4, cl_10, cl_13, cl_16]; done) | (simp_all; done) | (simp_all; simp only [g_lk, th_cn e_2, th_pv e_2, th_b e_2, th_m e_2, th_s e_2, th_lk e_2, cl_0, cl_1, cl_2, cl_4, cl_10, cl_13, cl_16])))⟩, trivial⟩, hS.F ht⟩) hS.2.2 dX1_held_40
  · by_cases sv_4 : w0.toInt = 11
    · refine lv_lookup (off := 40) (tgt := 41) hx hb dX1_held_1 (by decide) (by rw [sv_4]; rfl) (by decide) ?_
      refine lv_aload_n hx hb dX1_held_41 rfl (lv_at hl 0 rfl) ?_
      obtain ⟨cn_5, v_5, b_5, m_5, st_5, i_5, e_5, fv_5, fb_5, fm_5, fst_5, fi_5⟩ := hPI.a1 hx0
      obtain ⟨k_5, hk_5⟩ := va_plg hx0.1 e_5
      refine va_get (D := (dC, dI)) (ci := 1) (v := va_rf m_5) (C := RX1) (T := TX1) (N := 6) hx hb hts iX1_ hown hK hP k_5 hk_5 rfl 3 (by decide) (hts (.fieldLink RX1 23 "FieldLeaves$Thing" "middleLink" "LFieldLeaves$Thing;") (by decide +kernel)) (fun _ h9 => h9) rfl dX1_held_42 ?_
      rcases m_5 with _ | y_6
      · refine W.eq (g2 := F0 m 45 ls [.null]) rfl ?_
        exact W.aret (v := va_rf none) hx hb hr (Or.inl ⟨_, rfl⟩) (va_rf_or _) (fun t ht hW => ⟨⟨none, (), rfl, ⟨(fun _ h9 => by cases h9), (by have hc0 := congrArg Int32.toInt (th_cn e_5); first | (simp only [g_lk, th_cn e_5, th_pv e_5, th_b e_5, th_m e_5, th_s e_5, th_lk e_5, cl_0, cl_1, cl_2, cl_4, cl_10, cl_13, cl_16]; done) | (simp only [g_lk, th_cn e_5, th_pv e_5, th_b e_5, th_m e_5, th_s e_5, th_lk e_5, cl_0, cl_1, cl_2, cl_4, cl_10, cl_13, cl_16] <;> (repeat' split) <;> first | rfl | (exfalso; omega) | contradiction | (simp only [g_lk, th_cn e_5, th_pv e_5, th_b e_5, th_m e_5, th_s e_5, th_lk e_5, cl_0, cl_1, cl_2, cl_4, cl_10, cl_13, cl_16]; done) | (simp_all; done) | (simp_all; simp only [g_lk, th_cn e_5, th_pv e_5, th_b e_5, th_m e_5, th_s e_5, th_lk e_5, cl_0, cl_1, cl_2, cl_4, cl_10, cl_13, cl_16])))⟩, trivial⟩, hS.F ht⟩) hS.2.2 dX1_held_45
      · have fy_6 := fm_5 y_6 rfl
        refine W.eq (g2 := F0 m 45 ls [.ref y_6]) rfl ?_
        exact W.aret (v := va_rf (some y_6)) hx hb hr (Or.inl ⟨_, rfl⟩) (va_rf_or _) (fun t ht hW => ⟨⟨(some y_6), (), rfl, ⟨(fun _ h9 => by cases h9; exact fy_6), (by have hc0 := congrArg Int32.toInt (th_cn e_5); first | (simp only [g_lk, th_cn e_5, th_pv e_5, th_b e_5, th_m e_5, th_s e_5, th_lk e_5, cl_0, cl_1, cl_2, cl_4, cl_10, cl_13, cl_16]; done) | (simp only [g_lk, th_cn e_5, th_pv e_5, th_b e_5, th_m e_5, th_s e_5, th_lk e_5, cl_0, cl_1, cl_2, cl_4, cl_10, cl_13, cl_16] <;> (repeat' split) <;> first | rfl | (exfalso; omega) | contradiction | (simp only [g_lk, th_cn e_5, th_pv e_5, th_b e_5, th_m e_5, th_s e_5, th_lk e_5, cl_0, cl_1, cl_2, cl_4, cl_10, cl_13, cl_16]; done) | (simp_all; done) | (simp_all; simp only [g_lk, th_cn e_5, th_pv e_5, th_b e_5, th_m e_5, th_s e_5, th_lk e_5, cl_0, cl_1, cl_2, cl_4, cl_10, cl_13, cl_16])))⟩, trivial⟩, hS.F ht⟩) hS.2.2 dX1_held_45
    · by_cases sv_7 : w0.toInt = 15
      · refine lv_lookup (off := 45) (tgt := 46) hx hb dX1_held_1 (by decide) (by rw [sv_7]; rfl) (by decide) ?_
        refine lv_aload_n hx hb dX1_held_46 rfl (lv_at hl 0 rfl) ?_
        obtain ⟨cn_8, v_8, b_8, m_8, st_8, i_8, e_8, fv_8, fb_8, fm_8, fst_8, fi_8⟩ := hPI.a1 hx0
        obtain ⟨k_8, hk_8⟩ := va_plg hx0.1 e_8
        refine va_get (D := (dC, dI)) (ci := 1) (v := va_rf st_8) (C := RX1) (T := TX1) (N := 6) hx hb hts iX1_ hown hK hP k_8 hk_8 rfl 4 (by decide) (hts (.fieldLink RX1 26 "FieldLeaves$Thing" "strayBack" "LFieldLeaves$Thing;") (by decide +kernel)) (fun _ h9 => h9) rfl dX1_held_47 ?_
        rcases st_8 with _ | y_9
        · refine W.eq (g2 := F0 m 50 ls [.null]) rfl ?_
          exact W.aret (v := va_rf none) hx hb hr (Or.inl ⟨_, rfl⟩) (va_rf_or _) (fun t ht hW => ⟨⟨none, (), rfl, ⟨(fun _ h9 => by cases h9), (by have hc0 := congrArg Int32.toInt (th_cn e_8); first | (simp only [g_lk, th_cn e_8, th_pv e_8, th_b e_8, th_m e_8, th_s e_8, th_lk e_8, cl_0, cl_1, cl_2, cl_4, cl_10, cl_13, cl_16]; done) | (simp only [g_lk, th_cn e_8, th_pv e_8, th_b e_8, th_m e_8, th_s e_8, th_lk e_8, cl_0, cl_1, cl_2, cl_4, cl_10, cl_13, cl_16] <;> (repeat' split) <;> first | rfl | (exfalso; omega) | contradiction | (simp only [g_lk, th_cn e_8, th_pv e_8, th_b e_8, th_m e_8, th_s e_8, th_lk e_8, cl_0, cl_1, cl_2, cl_4, cl_10, cl_13, cl_16]; done) | (simp_all; done) | (simp_all; simp only [g_lk, th_cn e_8, th_pv e_8, th_b e_8, th_m e_8, th_s e_8, th_lk e_8, cl_0, cl_1, cl_2, cl_4, cl_10, cl_13, cl_16])))⟩, trivial⟩, hS.F ht⟩) hS.2.2 dX1_held_50
        · have fy_9 := fst_8 y_9 rfl
          refine W.eq (g2 := F0 m 50 ls [.ref y_9]) rfl ?_
          exact W.aret (v := va_rf (some y_9)) hx hb hr (Or.inl ⟨_, rfl⟩) (va_rf_or _) (fun t ht hW => ⟨⟨(some y_9), (), rfl, ⟨(fun _ h9 => by cases h9; exact fy_9), (by have hc0 := congrArg Int32.toInt (th_cn e_8); first | (simp only [g_lk, th_cn e_8, th_pv e_8, th_b e_8, th_m e_8, th_s e_8, th_lk e_8, cl_0, cl_1, cl_2, cl_4, cl_10, cl_13, cl_16]; done) | (simp only [g_lk, th_cn e_8, th_pv e_8, th_b e_8, th_m e_8, th_s e_8, th_lk e_8, cl_0, cl_1, cl_2, cl_4, cl_10, cl_13, cl_16] <;> (repeat' split) <;> first | rfl | (exfalso; omega) | contradiction | (simp only [g_lk, th_cn e_8, th_pv e_8, th_b e_8, th_m e_8, th_s e_8, th_lk e_8, cl_0, cl_1, cl_2, cl_4, cl_10, cl_13, cl_16]; done) | (simp_all; done) | (simp_all; simp only [g_lk, th_cn e_8, th_pv e_8, th_b e_8, th_m e_8, th_s e_8, th_lk e_8, cl_0, cl_1, cl_2, cl_4, cl_10, cl_13, cl_16])))⟩, trivial⟩, hS.F ht⟩) hS.2.2 dX1_held_50
      · refine lv_lookup (off := 50) (tgt := 51) hx hb dX1_held_1 (by decide) (by simp [Op.lookupswitch.offset, sv_1, Ne.symm sv_1, sv_4, Ne.symm sv_4, sv_7, Ne.symm sv_7]) (by decide) ?_
        refine lv_null hx hb dX1_held_51 ?_
        exact W.aret (v := va_rf none) hx hb hr (Or.inl ⟨_, rfl⟩) (va_rf_or _) (fun t ht hW => ⟨⟨none, (), rfl, ⟨(fun _ h9 => by cases h9), (by first | (simp only [g_lk, cl_0, cl_1, cl_2, cl_4, cl_10, cl_13, cl_16]; done) | (simp only [g_lk, cl_0, cl_1, cl_2, cl_4, cl_10, cl_13, cl_16] <;> (repeat' split) <;> first | rfl | (exfalso; omega) | contradiction | (simp only [g_lk, cl_0, cl_1, cl_2, cl_4, cl_10, cl_13, cl_16]; done) | (simp_all; done) | (simp_all; simp only [g_lk, cl_0, cl_1, cl_2, cl_4, cl_10, cl_13, cl_16])))⟩, trivial⟩, hS.F ht⟩) hS.2.2 dX1_held_52
set_option maxRecDepth 20000 in
theorem in_u_X1_leadsTo_X1 : ∀ w ∈ u_ws RX1 TX1 6, w ∈ wsX1_leadsTo := by decide +kernel
set_option maxRecDepth 100000 in
set_option maxHeartbeats 4000000 in
theorem u_X1_leadsTo (l : Launch) (dC : Nat → ClassId) (dI : Nat → Nat → Nat) (TT : Nat × Nat × Nat) (sz : Nat) (kT kI kJ : ClassId) (K : Nat → Nat) (L : List Nat) (f : Nat → va_E) (hPI : PI kT kI kJ K L f) (x0 : Nat) (hx0 : isr K L 1 x0) : Met l yX1_leadsTo wsX1_leadsTo ({ frames := 0, cells := 0, slots := 0, locals := 0 } : Room) (va_Pc [.ref x0] (pr dC dI (va_pl L f) [] [(kT, .object RX1), (kI, .int), (kJ, .long)] sz TT)) (va_Qq (fun (r : Option Nat) (u : Unit) => opr K L 1 r ∧ r = g_nx f x0) (fun _ _ => True) (va_A [] sz)) 0 0 (va_A [] sz) := by
  refine Met.ofW (cc := cX1_leadsTo) (maxL := 1) (ret := (some (.object "FieldLeaves$Thing"))) (by decide) rfl ?_
  intro p e s m args below meth c s₁ B hml hv
  obtain ⟨rfl, hsz, hP, hK, hD0, hst⟩ := hv
  have hx := B.exec
  have hb := B.bytes
  have hr := B.returns
  have hts := atoms_spec (ws := wsX1_leadsTo) B.pre
  have hown : s.vm.findClass RX1 = some m.cls := findClass_of_methodNamed B.named
  have hlocks := B.notSynchronized
  have iX1_ := in_u_X1_leadsTo_X1
  subst hsz
  have hD := hD0.self (sz := s.heap.size)
  generalize hAe : va_A [] s.heap.size = A at hD hst ⊢
  have hA : ∀ q : Nat, s.heap.size ≤ q → A q := fun q h => by rw [← hAe]; exact Or.inr h
  have hS : va_S A s.heap s.heap [] := va_S.rf
  have hl := lv_entry ([.ref x0]) (n := 1) (Nat.le_of_ble_eq_true rfl)
  rw [lg_entry_eq]
  generalize (lg_sl ([.ref x0]) ++ List.replicate (1 - (lg_sl ([.ref x0])).length) Slot.unset).toArray = ls at hl ⊢
  have hl : lv_has ls 1 [(0, .ref x0)] := hl
  have k0_ : Int32.toInt 0 = 0 := by decide
  have k3_ : Int32.toInt 3 = 3 := by decide
  refine lv_aload_n hx hb dX1_leadsTo_0 rfl (lv_at hl 0 rfl) ?_
  obtain ⟨cn_1, v_1, b_1, m_1, st_1, i_1, e_1, fv_1, fb_1, fm_1, fst_1, fi_1⟩ := hPI.a1 hx0
  obtain ⟨k_1, hk_1⟩ := va_plg hx0.1 e_1
  refine va_get (D := (dC, dI)) (ci := 1) (v := .int cn_1) (C := RX1) (T := TX1) (N := 6) hx hb hts iX1_ hown hK hP k_1 hk_1 rfl 0 (by decide) (hts (.fieldLink RX1 15 "FieldLeaves$Thing" "classNumber" "I") (by decide +kernel)) (fun _ h9 => h9) rfl dX1_leadsTo_1 ?_
  refine lv_if_ne (tgt := 12) hx hb dX1_leadsTo_4 (by decide) (fun c_2 => ?_) (fun c_2 => ?_)
  · have c_2 := mt Int32.toInt_inj.mp c_2
    refine lv_aload_n hx hb dX1_leadsTo_12 rfl (lv_at hl 0 rfl) ?_
    obtain ⟨k_3, hk_3⟩ := va_plg hx0.1 e_1
    refine va_get (D := (dC, dI)) (ci := 1) (v := .int cn_1) (C := RX1) (T := TX1) (N := 6) hx hb hts iX1_ hown hK hP k_3 hk_3 rfl 0 (by decide) (hts (.fieldLink RX1 15 "FieldLeaves$Thing" "classNumber" "I") (by decide +kernel)) (fun _ h9 => h9) rfl dX1_leadsTo_13 ?_
    refine lv_iconst (v := 3) hx hb dX1_leadsTo_16 (by decide) ?_
    refine lv_icmp_ne (tgt := 27) hx hb dX1_leadsTo_17 (by decide) (fun c_4 => ?_) (fun c_4 => ?_)
    · have c_4 := mt Int32.toInt_inj.mp c_4
      refine lv_aload_n hx hb dX1_leadsTo_27 rfl (lv_at hl 0 rfl) ?_
      obtain ⟨k_5, hk_5⟩ := va_plg hx0.1 e_1
      refine va_get (D := (dC, dI)) (ci := 1) (v := va_rf m_1) (C := RX1) (T := TX1) (N := 6) hx hb hts iX1_ hown hK hP k_5 hk_5 rfl 3 (by decide) (hts (.fieldLink RX1 23 "FieldLeaves$Thing" "middleLink" "LFieldLeaves$Thing;") (by decide +kernel)) (fun _ h9 => h9) rfl dX1_leadsTo_28 ?_
      rcases m_1 with _ | y_6
      · refine W.eq (g2 := F0 m 31 ls [.null]) rfl ?_
        exact W.aret (v := va_rf none) hx hb hr (Or.inl ⟨_, rfl⟩) (va_rf_or _) (fun t ht hW => ⟨⟨none, (), rfl, ⟨(fun _ h9 => by cases h9), (by have hc0 := congrArg Int32.toInt (th_cn e_1); first | (simp only [g_nx, ks_lead, th_cn e_1, th_pv e_1, th_b e_1, th_m e_1, th_s e_1, th_lk e_1, cl_0, cl_1, cl_2, cl_4, cl_10, cl_13, cl_16]; done) | (simp only [g_nx, ks_lead, th_cn e_1, th_pv e_1, th_b e_1, th_m e_1, th_s e_1, th_lk e_1, cl_0, cl_1, cl_2, cl_4, cl_10, cl_13, cl_16] <;> (repeat' split) <;> first | rfl | (exfalso; omega) | contradiction | (simp only [g_nx, ks_lead, th_cn e_1, th_pv e_1, th_b e_1, th_m e_1, th_s e_1, th_lk e_1, cl_0, cl_1, cl_2, cl_4, cl_10, cl_13, cl_16]; done) | (simp_all; done) | (simp_all; simp only [g_nx, ks_lead, th_cn e_1, th_pv e_1, th_b e_1, th_m e_1, th_s e_1, th_lk e_1, cl_0, cl_1, cl_2, cl_4, cl_10, cl_13, cl_16])))⟩, trivial⟩, hS.F ht⟩) hS.2.2 dX1_leadsTo_31
      · have fy_6 := fm_1 y_6 rfl
        refine W.eq (g2 := F0 m 31 ls [.ref y_6]) rfl ?_
        exact W.aret (v := va_rf (some y_6)) hx hb hr (Or.inl ⟨_, rfl⟩) (va_rf_or _) (fun t ht hW => ⟨⟨(some y_6), (), rfl, ⟨(fun _ h9 => by cases h9; exact fy_6), (by have hc0 := congrArg Int32.toInt (th_cn e_1); first | (simp only [g_nx, ks_lead, th_cn e_1, th_pv e_1, th_b e_1, th_m e_1, th_s e_1, th_lk e_1, cl_0, cl_1, cl_2, cl_4, cl_10, cl_13, cl_16]; done) | (simp only [g_nx, ks_lead, th_cn e_1, th_pv e_1, th_b e_1, th_m e_1, th_s e_1, th_lk e_1, cl_0, cl_1, cl_2, cl_4, cl_10, cl_13, cl_16] <;> (repeat' split) <;> first | rfl | (exfalso; omega) | contradiction | (simp only [g_nx, ks_lead, th_cn e_1, th_pv e_1, th_b e_1, th_m e_1, th_s e_1, th_lk e_1, cl_0, cl_1, cl_2, cl_4, cl_10, cl_13, cl_16]; done) | (simp_all; done) | (simp_all; simp only [g_nx, ks_lead, th_cn e_1, th_pv e_1, th_b e_1, th_m e_1, th_s e_1, th_lk e_1, cl_0, cl_1, cl_2, cl_4, cl_10, cl_13, cl_16])))⟩, trivial⟩, hS.F ht⟩) hS.2.2 dX1_leadsTo_31
    · have c_4 := congrArg Int32.toInt c_4
      refine lv_aload_n hx hb dX1_leadsTo_20 rfl (lv_at hl 0 rfl) ?_
      obtain ⟨k_7, hk_7⟩ := va_plg hx0.1 e_1
      refine va_get (D := (dC, dI)) (ci := 1) (v := va_rf st_1) (C := RX1) (T := TX1) (N := 6) hx hb hts iX1_ hown hK hP k_7 hk_7 rfl 4 (by decide) (hts (.fieldLink RX1 26 "FieldLeaves$Thing" "strayBack" "LFieldLeaves$Thing;") (by decide +kernel)) (fun _ h9 => h9) rfl dX1_leadsTo_21 ?_
      rcases st_1 with _ | y_8
      · refine W.eq (g2 := F0 m 24 ls [.null]) rfl ?_
        refine lv_goto (tgt := 31) hx hb dX1_leadsTo_24 (by decide) ?_
        exact W.aret (v := va_rf none) hx hb hr (Or.inl ⟨_, rfl⟩) (va_rf_or _) (fun t ht hW => ⟨⟨none, (), rfl, ⟨(fun _ h9 => by cases h9), (by have hc0 := congrArg Int32.toInt (th_cn e_1); first | (simp only [g_nx, ks_lead, th_cn e_1, th_pv e_1, th_b e_1, th_m e_1, th_s e_1, th_lk e_1, cl_0, cl_1, cl_2, cl_4, cl_10, cl_13, cl_16]; done) | (simp only [g_nx, ks_lead, th_cn e_1, th_pv e_1, th_b e_1, th_m e_1, th_s e_1, th_lk e_1, cl_0, cl_1, cl_2, cl_4, cl_10, cl_13, cl_16] <;> (repeat' split) <;> first | rfl | (exfalso; omega) | contradiction | (simp only [g_nx, ks_lead, th_cn e_1, th_pv e_1, th_b e_1, th_m e_1, th_s e_1, th_lk e_1, cl_0, cl_1, cl_2, cl_4, cl_10, cl_13, cl_16]; done) | (simp_all; done) | (simp_all; simp only [g_nx, ks_lead, th_cn e_1, th_pv e_1, th_b e_1, th_m e_1, th_s e_1, th_lk e_1, cl_0, cl_1, cl_2, cl_4, cl_10, cl_13, cl_16])))⟩, trivial⟩, hS.F ht⟩) hS.2.2 dX1_leadsTo_31
      · have fy_8 := fst_1 y_8 rfl
        refine W.eq (g2 := F0 m 24 ls [.ref y_8]) rfl ?_
        refine lv_goto (tgt := 31) hx hb dX1_leadsTo_24 (by decide) ?_
        exact W.aret (v := va_rf (some y_8)) hx hb hr (Or.inl ⟨_, rfl⟩) (va_rf_or _) (fun t ht hW => ⟨⟨(some y_8), (), rfl, ⟨(fun _ h9 => by cases h9; exact fy_8), (by have hc0 := congrArg Int32.toInt (th_cn e_1); first | (simp only [g_nx, ks_lead, th_cn e_1, th_pv e_1, th_b e_1, th_m e_1, th_s e_1, th_lk e_1, cl_0, cl_1, cl_2, cl_4, cl_10, cl_13, cl_16]; done) | (simp only [g_nx, ks_lead, th_cn e_1, th_pv e_1, th_b e_1, th_m e_1, th_s e_1, th_lk e_1, cl_0, cl_1, cl_2, cl_4, cl_10, cl_13, cl_16] <;> (repeat' split) <;> first | rfl | (exfalso; omega) | contradiction | (simp only [g_nx, ks_lead, th_cn e_1, th_pv e_1, th_b e_1, th_m e_1, th_s e_1, th_lk e_1, cl_0, cl_1, cl_2, cl_4, cl_10, cl_13, cl_16]; done) | (simp_all; done) | (simp_all; simp only [g_nx, ks_lead, th_cn e_1, th_pv e_1, th_b e_1, th_m e_1, th_s e_1, th_lk e_1, cl_0, cl_1, cl_2, cl_4, cl_10, cl_13, cl_16])))⟩, trivial⟩, hS.F ht⟩) hS.2.2 dX1_leadsTo_31
  · have c_2 := congrArg Int32.toInt c_2
    refine lv_aload_n hx hb dX1_leadsTo_7 rfl (lv_at hl 0 rfl) ?_
    obtain ⟨k_9, hk_9⟩ := va_plg hx0.1 e_1
    refine va_get (D := (dC, dI)) (ci := 1) (v := va_rf b_1) (C := RX1) (T := TX1) (N := 6) hx hb hts iX1_ hown hK hP k_9 hk_9 rfl 2 (by decide) (hts (.fieldLink RX1 19 "FieldLeaves$Thing" "baseLink" "LFieldLeaves$Thing;") (by decide +kernel)) (fun _ h9 => h9) rfl dX1_leadsTo_8 ?_
    rcases b_1 with _ | y_10
    · refine W.eq (g2 := F0 m 11 ls [.null]) rfl ?_
      exact W.aret (v := va_rf none) hx hb hr (Or.inl ⟨_, rfl⟩) (va_rf_or _) (fun t ht hW => ⟨⟨none, (), rfl, ⟨(fun _ h9 => by cases h9), (by have hc0 := congrArg Int32.toInt (th_cn e_1); first | (simp only [g_nx, ks_lead, th_cn e_1, th_pv e_1, th_b e_1, th_m e_1, th_s e_1, th_lk e_1, cl_0, cl_1, cl_2, cl_4, cl_10, cl_13, cl_16]; done) | (simp only [g_nx, ks_lead, th_cn e_1, th_pv e_1, th_b e_1, th_m e_1, th_s e_1, th_lk e_1, cl_0, cl_1, cl_2, cl_4, cl_10, cl_13, cl_16] <;> (repeat' split) <;> first | rfl | (exfalso; omega) | contradiction | (simp only [g_nx, ks_lead, th_cn e_1, th_pv e_1, th_b e_1, th_m e_1, th_s e_1, th_lk e_1, cl_0, cl_1, cl_2, cl_4, cl_10, cl_13, cl_16]; done) | (simp_all; done) | (simp_all; simp only [g_nx, ks_lead, th_cn e_1, th_pv e_1, th_b e_1, th_m e_1, th_s e_1, th_lk e_1, cl_0, cl_1, cl_2, cl_4, cl_10, cl_13, cl_16])))⟩, trivial⟩, hS.F ht⟩) hS.2.2 dX1_leadsTo_11
    · have fy_10 := fb_1 y_10 rfl
      refine W.eq (g2 := F0 m 11 ls [.ref y_10]) rfl ?_
      exact W.aret (v := va_rf (some y_10)) hx hb hr (Or.inl ⟨_, rfl⟩) (va_rf_or _) (fun t ht hW => ⟨⟨(some y_10), (), rfl, ⟨(fun _ h9 => by cases h9; exact fy_10), (by have hc0 := congrArg Int32.toInt (th_cn e_1); first | (simp only [g_nx, ks_lead, th_cn e_1, th_pv e_1, th_b e_1, th_m e_1, th_s e_1, th_lk e_1, cl_0, cl_1, cl_2, cl_4, cl_10, cl_13, cl_16]; done) | (simp only [g_nx, ks_lead, th_cn e_1, th_pv e_1, th_b e_1, th_m e_1, th_s e_1, th_lk e_1, cl_0, cl_1, cl_2, cl_4, cl_10, cl_13, cl_16] <;> (repeat' split) <;> first | rfl | (exfalso; omega) | contradiction | (simp only [g_nx, ks_lead, th_cn e_1, th_pv e_1, th_b e_1, th_m e_1, th_s e_1, th_lk e_1, cl_0, cl_1, cl_2, cl_4, cl_10, cl_13, cl_16]; done) | (simp_all; done) | (simp_all; simp only [g_nx, ks_lead, th_cn e_1, th_pv e_1, th_b e_1, th_m e_1, th_s e_1, th_lk e_1, cl_0, cl_1, cl_2, cl_4, cl_10, cl_13, cl_16])))⟩, trivial⟩, hS.F ht⟩) hS.2.2 dX1_leadsTo_11
set_option maxRecDepth 20000 in
theorem in_u_X1_name_X1 : ∀ w ∈ u_ws RX1 TX1 6, w ∈ wsX1_name := by decide +kernel
set_option maxRecDepth 100000 in
set_option maxHeartbeats 4000000 in
theorem u_X1_name (l : Launch) (dC : Nat → ClassId) (dI : Nat → Nat → Nat) (TT : Nat × Nat × Nat) (sz : Nat) (kT kI kJ : ClassId) (K : Nat → Nat) (L : List Nat) (f : Nat → va_E) (hPI : PI kT kI kJ K L f) (x0 : Nat) (hx0 : isr K L 1 x0) : Met l yX1_name wsX1_name ({ frames := 0, cells := 0, slots := 0, locals := 0 } : Room) (va_Pc [.ref x0] (pr dC dI (va_pl L f) [] [(kT, .object RX1), (kI, .int), (kJ, .long)] sz TT)) (va_Qi (fun (r : Int32) (u : Unit) => r = ks_name (g_cn f x0) (g_vl f x0)) (fun _ _ => True) (va_A [] sz)) 0 0 (va_A [] sz) := by
  refine Met.ofW (cc := cX1_name) (maxL := 2) (ret := (some .int)) (by decide) rfl ?_
  intro p e s m args below meth c s₁ B hml hv
  obtain ⟨rfl, hsz, hP, hK, hD0, hst⟩ := hv
  have hx := B.exec
  have hb := B.bytes
  have hr := B.returns
  have hts := atoms_spec (ws := wsX1_name) B.pre
  have hown : s.vm.findClass RX1 = some m.cls := findClass_of_methodNamed B.named
  have hlocks := B.notSynchronized
  have iX1_ := in_u_X1_name_X1
  subst hsz
  have hD := hD0.self (sz := s.heap.size)
  generalize hAe : va_A [] s.heap.size = A at hD hst ⊢
  have hA : ∀ q : Nat, s.heap.size ≤ q → A q := fun q h => by rw [← hAe]; exact Or.inr h
  have hS : va_S A s.heap s.heap [] := va_S.rf
  have hl := lv_entry ([.ref x0]) (n := 2) (Nat.le_of_ble_eq_true rfl)
  rw [lg_entry_eq]
  generalize (lg_sl ([.ref x0]) ++ List.replicate (2 - (lg_sl ([.ref x0])).length) Slot.unset).toArray = ls at hl ⊢
  have hl : lv_has ls 2 [(0, .ref x0)] := hl
  have k0_ : Int32.toInt 0 = 0 := by decide
  refine lv_iconst (v := 1) hx hb dX1_name_0 (by decide) ?_
  refine lv_aload_n hx hb dX1_name_1 rfl (lv_at hl 0 rfl) ?_
  obtain ⟨cn_1, v_1, b_1, m_1, st_1, i_1, e_1, fv_1, fb_1, fm_1, fst_1, fi_1⟩ := hPI.a1 hx0
  obtain ⟨k_1, hk_1⟩ := va_plg hx0.1 e_1
  refine va_get (D := (dC, dI)) (ci := 1) (v := .ref v_1) (C := RX1) (T := TX1) (N := 6) hx hb hts iX1_ hown hK hP k_1 hk_1 rfl 1 (by decide) (hts (.fieldLink RX1 9 "FieldLeaves$Thing" "values" "[J") (by decide +kernel)) (fun _ h9 => h9) rfl dX1_name_2 ?_
  refine lv_iconst (v := 4) hx hb dX1_name_5 (by decide) ?_
  obtain ⟨g_2, e_2⟩ := hPI.a3 fv_1
  obtain ⟨k_2, hk_2⟩ := va_plg fv_1.1 e_2
  have h_2 : vp_in 4 17 := (vp_in_iff.mpr (by decide))
  refine va_lald hx hb hK hP k_2 2 hk_2 rfl h_2 dX1_name_6 ?_
  refine lv_topl (fun z_2 ez_2 => ?_)
  refine lv_l2i hx hb dX1_name_7 rfl ?_
  refine lv_topi (fun z_3 ez_3 => ?_)
  refine lv_iadd hx hb dX1_name_8 ?_
  refine lv_topi (fun z_4 ez_4 => ?_)
  refine lv_istore_n (lv' := [(1, .int z_4), (0, .ref x0)]) hx hb dX1_name_9 rfl hl (by decide) rfl (fun ls hl => ?_)
  refine lv_aload_n hx hb dX1_name_10 rfl (lv_at hl 1 rfl) ?_
  obtain ⟨k_5, hk_5⟩ := va_plg hx0.1 e_1
  refine va_get (D := (dC, dI)) (ci := 1) (v := .int cn_1) (C := RX1) (T := TX1) (N := 6) hx hb hts iX1_ hown hK hP k_5 hk_5 rfl 0 (by decide) (hts (.fieldLink RX1 15 "FieldLeaves$Thing" "classNumber" "I") (by decide +kernel)) (fun _ h9 => h9) rfl dX1_name_11 ?_
  refine lv_if_ne (tgt := 19) hx hb dX1_name_14 (by decide) (fun c_6 => ?_) (fun c_6 => ?_)
  · have c_6 := mt Int32.toInt_inj.mp c_6
    refine lv_bipush (v := 10) hx hb dX1_name_19 (by decide) ?_
    refine lv_iload_n hx hb dX1_name_21 rfl (lv_at hl 0 rfl) ?_
    refine lv_imul hx hb dX1_name_22 ?_
    refine lv_topi (fun z_7 ez_7 => ?_)
    refine lv_aload_n hx hb dX1_name_23 rfl (lv_at hl 1 rfl) ?_
    obtain ⟨k_8, hk_8⟩ := va_plg hx0.1 e_1
    refine va_get (D := (dC, dI)) (ci := 1) (v := .ref v_1) (C := RX1) (T := TX1) (N := 6) hx hb hts iX1_ hown hK hP k_8 hk_8 rfl 1 (by decide) (hts (.fieldLink RX1 9 "FieldLeaves$Thing" "values" "[J") (by decide +kernel)) (fun _ h9 => h9) rfl dX1_name_24 ?_
    refine lv_bipush (v := 10) hx hb dX1_name_27 (by decide) ?_
    obtain ⟨k_9, hk_9⟩ := va_plg fv_1.1 e_2
    have h_9 : vp_in 10 17 := (vp_in_iff.mpr (by decide))
    refine va_lald hx hb hK hP k_9 2 hk_9 rfl h_9 dX1_name_29 ?_
    refine lv_topl (fun z_9 ez_9 => ?_)
    refine lv_l2i hx hb dX1_name_30 rfl ?_
    refine lv_topi (fun z_10 ez_10 => ?_)
    refine lv_iadd hx hb dX1_name_31 ?_
    refine lv_topi (fun z_11 ez_11 => ?_)
    refine lv_aload_n hx hb dX1_name_32 rfl (lv_at hl 1 rfl) ?_
    obtain ⟨k_12, hk_12⟩ := va_plg hx0.1 e_1
    refine va_get (D := (dC, dI)) (ci := 1) (v := .ref v_1) (C := RX1) (T := TX1) (N := 6) hx hb hts iX1_ hown hK hP k_12 hk_12 rfl 1 (by decide) (hts (.fieldLink RX1 9 "FieldLeaves$Thing" "values" "[J") (by decide +kernel)) (fun _ h9 => h9) rfl dX1_name_33 ?_
    refine lv_bipush (v := 13) hx hb dX1_name_36 (by decide) ?_
    obtain ⟨k_13, hk_13⟩ := va_plg fv_1.1 e_2
    have h_13 : vp_in 13 17 := (vp_in_iff.mpr (by decide))
    refine va_lald hx hb hK hP k_13 2 hk_13 rfl h_13 dX1_name_38 ?_
    refine lv_topl (fun z_13 ez_13 => ?_)
    refine lv_l2i hx hb dX1_name_39 rfl ?_
    refine lv_topi (fun z_14 ez_14 => ?_)
    refine lv_iadd hx hb dX1_name_40 ?_
    refine lv_topi (fun z_15 ez_15 => ?_)
    exact W.iret (v := z_15) hx hb hr (fun t ht hW => ⟨⟨z_15, (), rfl, (by have hc0 := congrArg Int32.toInt (th_cn e_1); first | (simp only [ks_name, th_cn e_1, th_pv e_1, th_b e_1, th_m e_1, th_s e_1, th_lk e_1, th_vl e_1 e_2, ez_2, ez_3, ez_4, ez_7, ez_9, ez_10, ez_11, ez_13, ez_14, ez_15, cl_0, cl_1, cl_2, cl_4, cl_10, cl_13, cl_16]; done) | (simp only [ks_name, th_cn e_1, th_pv e_1, th_b e_1, th_m e_1, th_s e_1, th_lk e_1, th_vl e_1 e_2, ez_2, ez_3, ez_4, ez_7, ez_9, ez_10, ez_11, ez_13, ez_14, ez_15, cl_0, cl_1, cl_2, cl_4, cl_10, cl_13, cl_16] <;> (repeat' split) <;> first | rfl | (exfalso; omega) | contradiction | (simp only [ks_name, th_cn e_1, th_pv e_1, th_b e_1, th_m e_1, th_s e_1, th_lk e_1, th_vl e_1 e_2, ez_2, ez_3, ez_4, ez_7, ez_9, ez_10, ez_11, ez_13, ez_14, ez_15, cl_0, cl_1, cl_2, cl_4, cl_10, cl_13, cl_16]; done) | (simp_all; done) | (simp_all; simp only [ks_name, th_cn e_1, th_pv e_1, th_b e_1, th_m e_1, th_s e_1, th_lk e_1, th_vl e_1 e_2, ez_2, ez_3, ez_4, ez_7, ez_9, ez_10, ez_11, ez_13, ez_14, ez_15, cl_0, cl_1, cl_2, cl_4, cl_10, cl_13, cl_16]))), trivial⟩, hS.F ht⟩) hS.2.2 dX1_name_41
  · have c_6 := congrArg Int32.toInt c_6
    refine lv_iload_n hx hb dX1_name_17 rfl (lv_at hl 0 rfl) ?_
    exact W.iret (v := z_4) hx hb hr (fun t ht hW => ⟨⟨z_4, (), rfl, (by have hc0 := congrArg Int32.toInt (th_cn e_1); first | (simp only [ks_name, th_cn e_1, th_pv e_1, th_b e_1, th_m e_1, th_s e_1, th_lk e_1, th_vl e_1 e_2, ez_2, ez_3, ez_4, cl_0, cl_1, cl_2, cl_4, cl_10, cl_13, cl_16]; done) | (simp only [ks_name, th_cn e_1, th_pv e_1, th_b e_1, th_m e_1, th_s e_1, th_lk e_1, th_vl e_1 e_2, ez_2, ez_3, ez_4, cl_0, cl_1, cl_2, cl_4, cl_10, cl_13, cl_16] <;> (repeat' split) <;> first | rfl | (exfalso; omega) | contradiction | (simp only [ks_name, th_cn e_1, th_pv e_1, th_b e_1, th_m e_1, th_s e_1, th_lk e_1, th_vl e_1 e_2, ez_2, ez_3, ez_4, cl_0, cl_1, cl_2, cl_4, cl_10, cl_13, cl_16]; done) | (simp_all; done) | (simp_all; simp only [ks_name, th_cn e_1, th_pv e_1, th_b e_1, th_m e_1, th_s e_1, th_lk e_1, th_vl e_1 e_2, ez_2, ez_3, ez_4, cl_0, cl_1, cl_2, cl_4, cl_10, cl_13, cl_16]))), trivial⟩, hS.F ht⟩) hS.2.2 dX1_name_18
set_option maxRecDepth 20000 in
theorem in_u_X1_secret_X1 : ∀ w ∈ u_ws RX1 TX1 6, w ∈ wsX1_secret := by decide +kernel
set_option maxRecDepth 100000 in
set_option maxHeartbeats 4000000 in
theorem u_X1_secret (l : Launch) (dC : Nat → ClassId) (dI : Nat → Nat → Nat) (TT : Nat × Nat × Nat) (sz : Nat) (kT kI kJ : ClassId) (K : Nat → Nat) (L : List Nat) (f : Nat → va_E) (hPI : PI kT kI kJ K L f) (x0 : Nat) (hx0 : isr K L 1 x0) : Met l yX1_secret wsX1_secret ({ frames := 0, cells := 0, slots := 0, locals := 0 } : Room) (va_Pc [.ref x0] (pr dC dI (va_pl L f) [] [(kT, .object RX1), (kI, .int), (kJ, .long)] sz TT)) (va_Qi (fun (r : Int32) (u : Unit) => r = ks_secret (g_vl f x0)) (fun _ _ => True) (va_A [] sz)) 0 0 (va_A [] sz) := by
  refine Met.ofW (cc := cX1_secret) (maxL := 1) (ret := (some .int)) (by decide) rfl ?_
  intro p e s m args below meth c s₁ B hml hv
  obtain ⟨rfl, hsz, hP, hK, hD0, hst⟩ := hv
  have hx := B.exec
  have hb := B.bytes
  have hr := B.returns
  have hts := atoms_spec (ws := wsX1_secret) B.pre
  have hown : s.vm.findClass RX1 = some m.cls := findClass_of_methodNamed B.named
  have hlocks := B.notSynchronized
  have iX1_ := in_u_X1_secret_X1
  subst hsz
  have hD := hD0.self (sz := s.heap.size)
  generalize hAe : va_A [] s.heap.size = A at hD hst ⊢
  have hA : ∀ q : Nat, s.heap.size ≤ q → A q := fun q h => by rw [← hAe]; exact Or.inr h
  have hS : va_S A s.heap s.heap [] := va_S.rf
  have hl := lv_entry ([.ref x0]) (n := 1) (Nat.le_of_ble_eq_true rfl)
  rw [lg_entry_eq]
  generalize (lg_sl ([.ref x0]) ++ List.replicate (1 - (lg_sl ([.ref x0])).length) Slot.unset).toArray = ls at hl ⊢
  have hl : lv_has ls 1 [(0, .ref x0)] := hl
  refine lv_aload_n hx hb dX1_secret_0 rfl (lv_at hl 0 rfl) ?_
  obtain ⟨cn_1, v_1, b_1, m_1, st_1, i_1, e_1, fv_1, fb_1, fm_1, fst_1, fi_1⟩ := hPI.a1 hx0
  obtain ⟨k_1, hk_1⟩ := va_plg hx0.1 e_1
  refine va_get (D := (dC, dI)) (ci := 1) (v := .ref v_1) (C := RX1) (T := TX1) (N := 6) hx hb hts iX1_ hown hK hP k_1 hk_1 rfl 1 (by decide) (hts (.fieldLink RX1 9 "FieldLeaves$Thing" "values" "[J") (by decide +kernel)) (fun _ h9 => h9) rfl dX1_secret_1 ?_
  refine lv_iconst (v := 1) hx hb dX1_secret_4 (by decide) ?_
  obtain ⟨g_2, e_2⟩ := hPI.a3 fv_1
  obtain ⟨k_2, hk_2⟩ := va_plg fv_1.1 e_2
  have h_2 : vp_in 1 17 := (vp_in_iff.mpr (by decide))
  refine va_lald hx hb hK hP k_2 2 hk_2 rfl h_2 dX1_secret_5 ?_
  refine lv_topl (fun z_2 ez_2 => ?_)
  refine lv_l2i hx hb dX1_secret_6 rfl ?_
  refine lv_topi (fun z_3 ez_3 => ?_)
  refine lv_aload_n hx hb dX1_secret_7 rfl (lv_at hl 0 rfl) ?_
  obtain ⟨k_4, hk_4⟩ := va_plg hx0.1 e_1
  refine va_get (D := (dC, dI)) (ci := 1) (v := .ref v_1) (C := RX1) (T := TX1) (N := 6) hx hb hts iX1_ hown hK hP k_4 hk_4 rfl 1 (by decide) (hts (.fieldLink RX1 9 "FieldLeaves$Thing" "values" "[J") (by decide +kernel)) (fun _ h9 => h9) rfl dX1_secret_8 ?_
  refine lv_iconst (v := 2) hx hb dX1_secret_11 (by decide) ?_
  obtain ⟨k_5, hk_5⟩ := va_plg fv_1.1 e_2
  have h_5 : vp_in 2 17 := (vp_in_iff.mpr (by decide))
  refine va_lald hx hb hK hP k_5 2 hk_5 rfl h_5 dX1_secret_12 ?_
  refine lv_topl (fun z_5 ez_5 => ?_)
  refine lv_l2i hx hb dX1_secret_13 rfl ?_
  refine lv_topi (fun z_6 ez_6 => ?_)
  refine lv_iadd hx hb dX1_secret_14 ?_
  refine lv_topi (fun z_7 ez_7 => ?_)
  exact W.iret (v := z_7) hx hb hr (fun t ht hW => ⟨⟨z_7, (), rfl, (by have hc0 := congrArg Int32.toInt (th_cn e_1); first | (simp only [ks_secret, th_cn e_1, th_pv e_1, th_b e_1, th_m e_1, th_s e_1, th_lk e_1, th_vl e_1 e_2, ez_2, ez_3, ez_5, ez_6, ez_7, cl_0, cl_1, cl_2, cl_4, cl_10, cl_13, cl_16]; done) | (simp only [ks_secret, th_cn e_1, th_pv e_1, th_b e_1, th_m e_1, th_s e_1, th_lk e_1, th_vl e_1 e_2, ez_2, ez_3, ez_5, ez_6, ez_7, cl_0, cl_1, cl_2, cl_4, cl_10, cl_13, cl_16] <;> (repeat' split) <;> first | rfl | (exfalso; omega) | contradiction | (simp only [ks_secret, th_cn e_1, th_pv e_1, th_b e_1, th_m e_1, th_s e_1, th_lk e_1, th_vl e_1 e_2, ez_2, ez_3, ez_5, ez_6, ez_7, cl_0, cl_1, cl_2, cl_4, cl_10, cl_13, cl_16]; done) | (simp_all; done) | (simp_all; simp only [ks_secret, th_cn e_1, th_pv e_1, th_b e_1, th_m e_1, th_s e_1, th_lk e_1, th_vl e_1 e_2, ez_2, ez_3, ez_5, ez_6, ez_7, cl_0, cl_1, cl_2, cl_4, cl_10, cl_13, cl_16]))), trivial⟩, hS.F ht⟩) hS.2.2 dX1_secret_15
set_option maxRecDepth 20000 in
theorem in_u_X1_hold_null_X1 : ∀ w ∈ u_ws RX1 TX1 6, w ∈ wsX1_hold := by decide +kernel
set_option maxRecDepth 100000 in
set_option maxHeartbeats 4000000 in
theorem u_X1_hold_null (l : Launch) (dC : Nat → ClassId) (dI : Nat → Nat → Nat) (TT : Nat × Nat × Nat) (sz : Nat) (kT kI kJ : ClassId) (K : Nat → Nat) (L : List Nat) (f : Nat → va_E) (hPI : PI kT kI kJ K L f) (x0 : Nat) (hx0 : isr K L 1 x0) (w0 : Int32) : Met l yX1_hold wsX1_hold ({ frames := 0, cells := 0, slots := 0, locals := 0 } : Room) (va_Pc [.ref x0, .int w0, .null] (pr dC dI (va_pl L f) (va_pl L f) [(kT, .object RX1), (kI, .int), (kJ, .long)] sz TT)) (va_Qv (fun (u : Unit) => True) (fun (_ : Unit) t => ∃ f2 : Nat → va_E, PI kT kI kJ K L f2 ∧ (f2 = ks_hold f x0 w0 none) ∧ va_P (dC, dI) vwCl (va_pl L f2) t.heap ∧ va_D (va_A (va_pl L f) sz) (va_pl L f2)) (va_A (va_pl L f) sz)) 0 0 (va_A (va_pl L f) sz) := by
  refine Met.ofW (cc := cX1_hold) (maxL := 3) (ret := none) (by decide) rfl ?_
  intro p e s m args below meth c s₁ B hml hv
  obtain ⟨rfl, hsz, hP, hK, hD0, hst⟩ := hv
  have hx := B.exec
  have hb := B.bytes
  have hr := B.returns
  have hts := atoms_spec (ws := wsX1_hold) B.pre
  have hown : s.vm.findClass RX1 = some m.cls := findClass_of_methodNamed B.named
  have hlocks := B.notSynchronized
  have iX1_ := in_u_X1_hold_null_X1
  subst hsz
  have hD := hD0.self (sz := s.heap.size)
  generalize hAe : va_A (va_pl L f) s.heap.size = A at hD hst ⊢
  have hA : ∀ q : Nat, s.heap.size ≤ q → A q := fun q h => by rw [← hAe]; exact Or.inr h
  have hS : va_S A s.heap s.heap [] := va_S.rf
  have hl := lv_entry ([.ref x0, .int w0, .null]) (n := 3) (Nat.le_of_ble_eq_true rfl)
  rw [lg_entry_eq]
  generalize (lg_sl ([.ref x0, .int w0, .null]) ++ List.replicate (3 - (lg_sl ([.ref x0, .int w0, .null])).length) Slot.unset).toArray = ls at hl ⊢
  have hl : lv_has ls 3 [(0, .ref x0), (1, .int w0), (2, .null)] := hl
  refine lv_iload_n hx hb dX1_hold_0 rfl (lv_at hl 1 rfl) ?_
  have swp : True := trivial
  by_cases sv_1 : w0.toInt = 8
  · refine lv_lookup (off := 35) (tgt := 36) hx hb dX1_hold_1 (by decide) (by rw [sv_1]; rfl) (by decide) ?_
    refine lv_aload_n hx hb dX1_hold_36 rfl (lv_at hl 0 rfl) ?_
    refine lv_aload_nN hx hb dX1_hold_37 rfl (lv_at hl 2 rfl) ?_
    obtain ⟨cn_2, v_2, b_2, m_2, st_2, i_2, e_2, fv_2, fb_2, fm_2, fst_2, fi_2⟩ := hPI.a1 hx0
    obtain ⟨k_2, hk_2⟩ := va_plg hx0.1 e_2
    have hD9 := hD
    refine va_put (D := (dC, dI)) (ci := 1) (v := .null) (ty := .object "FieldLeaves$Thing") (C := RX1) (T := TX1) (N := 6) hx hb hts iX1_ tyX1 tyX1_ok nmX1 hown hK hP hD hS k_2 hk_2 rfl 2 (by decide) (hts (.fieldLink RX1 19 "FieldLeaves$Thing" "baseLink" "LFieldLeaves$Thing;") (by decide +kernel)) (fun _ h9 => h9) rfl (by decide +kernel) rfl rfl (Nat.le_of_ble_eq_true rfl) dX1_hold_38 (fun H locs hP hD hS => ?_)
    have op_3 : opr K L 1 none := fun _ h9 => by cases h9
    have hP : va_P (dC, dI) vwCl (va_pl L (va_up f x0 (.inr (1, [.int cn_2, .ref v_2, va_rf none, va_rf m_2, va_rf st_2, va_rf i_2])))) H := by rw [← va_pls hD9 hx0.1 hk_2 _]; exact hP
    have hD : va_D A (va_pl L (va_up f x0 (.inr (1, [.int cn_2, .ref v_2, va_rf none, va_rf m_2, va_rf st_2, va_rf i_2])))) := by rw [← va_pls hD9 hx0.1 hk_2 _]; exact hD
    have hPI := hPI.put (e := .inr (1, [.int cn_2, .ref v_2, va_rf none, va_rf m_2, va_rf st_2, va_rf i_2])) hx0 ⟨cn_2, v_2, none, m_2, st_2, i_2, rfl, fv_2, op_3, fm_2, fst_2, fi_2⟩
    have es_f_4 : va_up f x0 (.inr (1, [.int cn_2, .ref v_2, va_rf none, va_rf m_2, va_rf st_2, va_rf i_2])) x0 = .inr (1, [.int cn_2, .ref v_2, va_rf none, va_rf m_2, va_rf st_2, va_rf i_2]) := va_up_self _ _ _
    generalize hg_f_4 : va_up f x0 (.inr (1, [.int cn_2, .ref v_2, va_rf none, va_rf m_2, va_rf st_2, va_rf i_2])) = f_4 at hP hD hPI es_f_4 
    refine lv_goto (tgt := 60) hx hb dX1_hold_41 (by decide) ?_
    exact W.vret hx hb hr (fun t ht hW => ⟨⟨(), rfl, trivial, f_4, hPI, (by subst hg_f_4; have hc0 := congrArg Int32.toInt (th_cn e_2); have hc1 := congrArg Int32.toInt (th_cn es_f_4); first | (simp only [ks_hold, th_cn e_2, th_pv e_2, th_b e_2, th_m e_2, th_s e_2, th_lk e_2, th_cn es_f_4, th_pv es_f_4, th_b es_f_4, th_m es_f_4, th_s es_f_4, th_lk es_f_4, cl_0, cl_1, cl_2, cl_4, cl_10, cl_13, cl_16, s_F_of e_2, List.set_cons_succ, List.set_cons_zero]; done) | (simp only [ks_hold, th_cn e_2, th_pv e_2, th_b e_2, th_m e_2, th_s e_2, th_lk e_2, th_cn es_f_4, th_pv es_f_4, th_b es_f_4, th_m es_f_4, th_s es_f_4, th_lk es_f_4, cl_0, cl_1, cl_2, cl_4, cl_10, cl_13, cl_16, s_F_of e_2, List.set_cons_succ, List.set_cons_zero] <;> (repeat' split) <;> first | rfl | (exfalso; omega) | contradiction | (simp only [ks_hold, th_cn e_2, th_pv e_2, th_b e_2, th_m e_2, th_s e_2, th_lk e_2, th_cn es_f_4, th_pv es_f_4, th_b es_f_4, th_m es_f_4, th_s es_f_4, th_lk es_f_4, cl_0, cl_1, cl_2, cl_4, cl_10, cl_13, cl_16, s_F_of e_2, List.set_cons_succ, List.set_cons_zero]; done) | (simp_all; done) | (simp_all; simp only [ks_hold, th_cn e_2, th_pv e_2, th_b e_2, th_m e_2, th_s e_2, th_lk e_2, th_cn es_f_4, th_pv es_f_4, th_b es_f_4, th_m es_f_4, th_s es_f_4, th_lk es_f_4, cl_0, cl_1, cl_2, cl_4, cl_10, cl_13, cl_16, s_F_of e_2, List.set_cons_succ, List.set_cons_zero]))), by rw [ht]; exact hP, hD⟩, hS.F ht⟩) hS.2.2 dX1_hold_60
  · by_cases sv_5 : w0.toInt = 11
    · refine lv_lookup (off := 43) (tgt := 44) hx hb dX1_hold_1 (by decide) (by rw [sv_5]; rfl) (by decide) ?_
      refine lv_aload_n hx hb dX1_hold_44 rfl (lv_at hl 0 rfl) ?_
      refine lv_aload_nN hx hb dX1_hold_45 rfl (lv_at hl 2 rfl) ?_
      obtain ⟨cn_6, v_6, b_6, m_6, st_6, i_6, e_6, fv_6, fb_6, fm_6, fst_6, fi_6⟩ := hPI.a1 hx0
      obtain ⟨k_6, hk_6⟩ := va_plg hx0.1 e_6
      have hD9 := hD
      refine va_put (D := (dC, dI)) (ci := 1) (v := .null) (ty := .object "FieldLeaves$Thing") (C := RX1) (T := TX1) (N := 6) hx hb hts iX1_ tyX1 tyX1_ok nmX1 hown hK hP hD hS k_6 hk_6 rfl 3 (by decide) (hts (.fieldLink RX1 23 "FieldLeaves$Thing" "middleLink" "LFieldLeaves$Thing;") (by decide +kernel)) (fun _ h9 => h9) rfl (by decide +kernel) rfl rfl (Nat.le_of_ble_eq_true rfl) dX1_hold_46 (fun H locs hP hD hS => ?_)
      have op_7 : opr K L 1 none := fun _ h9 => by cases h9
      have hP : va_P (dC, dI) vwCl (va_pl L (va_up f x0 (.inr (1, [.int cn_6, .ref v_6, va_rf b_6, va_rf none, va_rf st_6, va_rf i_6])))) H := by rw [← va_pls hD9 hx0.1 hk_6 _]; exact hP
      have hD : va_D A (va_pl L (va_up f x0 (.inr (1, [.int cn_6, .ref v_6, va_rf b_6, va_rf none, va_rf st_6, va_rf i_6])))) := by rw [← va_pls hD9 hx0.1 hk_6 _]; exact hD
      have hPI := hPI.put (e := .inr (1, [.int cn_6, .ref v_6, va_rf b_6, va_rf none, va_rf st_6, va_rf i_6])) hx0 ⟨cn_6, v_6, b_6, none, st_6, i_6, rfl, fv_6, fb_6, op_7, fst_6, fi_6⟩
      have es_f_8 : va_up f x0 (.inr (1, [.int cn_6, .ref v_6, va_rf b_6, va_rf none, va_rf st_6, va_rf i_6])) x0 = .inr (1, [.int cn_6, .ref v_6, va_rf b_6, va_rf none, va_rf st_6, va_rf i_6]) := va_up_self _ _ _
      generalize hg_f_8 : va_up f x0 (.inr (1, [.int cn_6, .ref v_6, va_rf b_6, va_rf none, va_rf st_6, va_rf i_6])) = f_8 at hP hD hPI es_f_8 
      refine lv_goto (tgt := 60) hx hb dX1_hold_49 (by decide) ?_
      exact W.vret hx hb hr (fun t ht hW => ⟨⟨(), rfl, trivial, f_8, hPI, (by subst hg_f_8; have hc0 := congrArg Int32.toInt (th_cn e_6); have hc1 := congrArg Int32.toInt (th_cn es_f_8); first | (simp only [ks_hold, th_cn e_6, th_pv e_6, th_b e_6, th_m e_6, th_s e_6, th_lk e_6, th_cn es_f_8, th_pv es_f_8, th_b es_f_8, th_m es_f_8, th_s es_f_8, th_lk es_f_8, cl_0, cl_1, cl_2, cl_4, cl_10, cl_13, cl_16, s_F_of e_6, List.set_cons_succ, List.set_cons_zero]; done) | (simp only [ks_hold, th_cn e_6, th_pv e_6, th_b e_6, th_m e_6, th_s e_6, th_lk e_6, th_cn es_f_8, th_pv es_f_8, th_b es_f_8, th_m es_f_8, th_s es_f_8, th_lk es_f_8, cl_0, cl_1, cl_2, cl_4, cl_10, cl_13, cl_16, s_F_of e_6, List.set_cons_succ, List.set_cons_zero] <;> (repeat' split) <;> first | rfl | (exfalso; omega) | contradiction | (simp only [ks_hold, th_cn e_6, th_pv e_6, th_b e_6, th_m e_6, th_s e_6, th_lk e_6, th_cn es_f_8, th_pv es_f_8, th_b es_f_8, th_m es_f_8, th_s es_f_8, th_lk es_f_8, cl_0, cl_1, cl_2, cl_4, cl_10, cl_13, cl_16, s_F_of e_6, List.set_cons_succ, List.set_cons_zero]; done) | (simp_all; done) | (simp_all; simp only [ks_hold, th_cn e_6, th_pv e_6, th_b e_6, th_m e_6, th_s e_6, th_lk e_6, th_cn es_f_8, th_pv es_f_8, th_b es_f_8, th_m es_f_8, th_s es_f_8, th_lk es_f_8, cl_0, cl_1, cl_2, cl_4, cl_10, cl_13, cl_16, s_F_of e_6, List.set_cons_succ, List.set_cons_zero]))), by rw [ht]; exact hP, hD⟩, hS.F ht⟩) hS.2.2 dX1_hold_60
    · by_cases sv_9 : w0.toInt = 15
      · refine lv_lookup (off := 51) (tgt := 52) hx hb dX1_hold_1 (by decide) (by rw [sv_9]; rfl) (by decide) ?_
        refine lv_aload_n hx hb dX1_hold_52 rfl (lv_at hl 0 rfl) ?_
        refine lv_aload_nN hx hb dX1_hold_53 rfl (lv_at hl 2 rfl) ?_
        obtain ⟨cn_10, v_10, b_10, m_10, st_10, i_10, e_10, fv_10, fb_10, fm_10, fst_10, fi_10⟩ := hPI.a1 hx0
        obtain ⟨k_10, hk_10⟩ := va_plg hx0.1 e_10
        have hD9 := hD
        refine va_put (D := (dC, dI)) (ci := 1) (v := .null) (ty := .object "FieldLeaves$Thing") (C := RX1) (T := TX1) (N := 6) hx hb hts iX1_ tyX1 tyX1_ok nmX1 hown hK hP hD hS k_10 hk_10 rfl 4 (by decide) (hts (.fieldLink RX1 26 "FieldLeaves$Thing" "strayBack" "LFieldLeaves$Thing;") (by decide +kernel)) (fun _ h9 => h9) rfl (by decide +kernel) rfl rfl (Nat.le_of_ble_eq_true rfl) dX1_hold_54 (fun H locs hP hD hS => ?_)
        have op_11 : opr K L 1 none := fun _ h9 => by cases h9
        have hP : va_P (dC, dI) vwCl (va_pl L (va_up f x0 (.inr (1, [.int cn_10, .ref v_10, va_rf b_10, va_rf m_10, va_rf none, va_rf i_10])))) H := by rw [← va_pls hD9 hx0.1 hk_10 _]; exact hP
        have hD : va_D A (va_pl L (va_up f x0 (.inr (1, [.int cn_10, .ref v_10, va_rf b_10, va_rf m_10, va_rf none, va_rf i_10])))) := by rw [← va_pls hD9 hx0.1 hk_10 _]; exact hD
        have hPI := hPI.put (e := .inr (1, [.int cn_10, .ref v_10, va_rf b_10, va_rf m_10, va_rf none, va_rf i_10])) hx0 ⟨cn_10, v_10, b_10, m_10, none, i_10, rfl, fv_10, fb_10, fm_10, op_11, fi_10⟩
        have es_f_12 : va_up f x0 (.inr (1, [.int cn_10, .ref v_10, va_rf b_10, va_rf m_10, va_rf none, va_rf i_10])) x0 = .inr (1, [.int cn_10, .ref v_10, va_rf b_10, va_rf m_10, va_rf none, va_rf i_10]) := va_up_self _ _ _
        generalize hg_f_12 : va_up f x0 (.inr (1, [.int cn_10, .ref v_10, va_rf b_10, va_rf m_10, va_rf none, va_rf i_10])) = f_12 at hP hD hPI es_f_12 
        refine lv_goto (tgt := 60) hx hb dX1_hold_57 (by decide) ?_
        exact W.vret hx hb hr (fun t ht hW => ⟨⟨(), rfl, trivial, f_12, hPI, (by subst hg_f_12; have hc0 := congrArg Int32.toInt (th_cn e_10); have hc1 := congrArg Int32.toInt (th_cn es_f_12); first | (simp only [ks_hold, th_cn e_10, th_pv e_10, th_b e_10, th_m e_10, th_s e_10, th_lk e_10, th_cn es_f_12, th_pv es_f_12, th_b es_f_12, th_m es_f_12, th_s es_f_12, th_lk es_f_12, cl_0, cl_1, cl_2, cl_4, cl_10, cl_13, cl_16, s_F_of e_10, List.set_cons_succ, List.set_cons_zero]; done) | (simp only [ks_hold, th_cn e_10, th_pv e_10, th_b e_10, th_m e_10, th_s e_10, th_lk e_10, th_cn es_f_12, th_pv es_f_12, th_b es_f_12, th_m es_f_12, th_s es_f_12, th_lk es_f_12, cl_0, cl_1, cl_2, cl_4, cl_10, cl_13, cl_16, s_F_of e_10, List.set_cons_succ, List.set_cons_zero] <;> (repeat' split) <;> first | rfl | (exfalso; omega) | contradiction | (simp only [ks_hold, th_cn e_10, th_pv e_10, th_b e_10, th_m e_10, th_s e_10, th_lk e_10, th_cn es_f_12, th_pv es_f_12, th_b es_f_12, th_m es_f_12, th_s es_f_12, th_lk es_f_12, cl_0, cl_1, cl_2, cl_4, cl_10, cl_13, cl_16, s_F_of e_10, List.set_cons_succ, List.set_cons_zero]; done) | (simp_all; done) | (simp_all; simp only [ks_hold, th_cn e_10, th_pv e_10, th_b e_10, th_m e_10, th_s e_10, th_lk e_10, th_cn es_f_12, th_pv es_f_12, th_b es_f_12, th_m es_f_12, th_s es_f_12, th_lk es_f_12, cl_0, cl_1, cl_2, cl_4, cl_10, cl_13, cl_16, s_F_of e_10, List.set_cons_succ, List.set_cons_zero]))), by rw [ht]; exact hP, hD⟩, hS.F ht⟩) hS.2.2 dX1_hold_60
      · refine lv_lookup (off := 59) (tgt := 60) hx hb dX1_hold_1 (by decide) (by simp [Op.lookupswitch.offset, sv_1, Ne.symm sv_1, sv_5, Ne.symm sv_5, sv_9, Ne.symm sv_9]) (by decide) ?_
        exact W.vret hx hb hr (fun t ht hW => ⟨⟨(), rfl, trivial, f, hPI, (by first | (simp only [ks_hold, cl_0, cl_1, cl_2, cl_4, cl_10, cl_13, cl_16, List.set_cons_succ, List.set_cons_zero]; done) | (simp only [ks_hold, cl_0, cl_1, cl_2, cl_4, cl_10, cl_13, cl_16, List.set_cons_succ, List.set_cons_zero] <;> (repeat' split) <;> first | rfl | (exfalso; omega) | contradiction | (simp only [ks_hold, cl_0, cl_1, cl_2, cl_4, cl_10, cl_13, cl_16, List.set_cons_succ, List.set_cons_zero]; done) | (simp_all; done) | (simp_all; simp only [ks_hold, cl_0, cl_1, cl_2, cl_4, cl_10, cl_13, cl_16, List.set_cons_succ, List.set_cons_zero]))), by rw [ht]; exact hP, hD⟩, hS.F ht⟩) hS.2.2 dX1_hold_60
set_option maxRecDepth 20000 in
theorem in_u_X1_hold_X1 : ∀ w ∈ u_ws RX1 TX1 6, w ∈ wsX1_hold := by decide +kernel
set_option maxRecDepth 100000 in
set_option maxHeartbeats 4000000 in
theorem u_X1_hold (l : Launch) (dC : Nat → ClassId) (dI : Nat → Nat → Nat) (TT : Nat × Nat × Nat) (sz : Nat) (kT kI kJ : ClassId) (K : Nat → Nat) (L : List Nat) (f : Nat → va_E) (hPI : PI kT kI kJ K L f) (x0 : Nat) (hx0 : isr K L 1 x0) (w0 : Int32) (y0 : Nat) (hy0 : isr K L 1 y0) : Met l yX1_hold wsX1_hold ({ frames := 0, cells := 0, slots := 0, locals := 0 } : Room) (va_Pc [.ref x0, .int w0, .ref y0] (pr dC dI (va_pl L f) (va_pl L f) [(kT, .object RX1), (kI, .int), (kJ, .long)] sz TT)) (va_Qv (fun (u : Unit) => True) (fun (_ : Unit) t => ∃ f2 : Nat → va_E, PI kT kI kJ K L f2 ∧ (f2 = ks_hold f x0 w0 (some y0)) ∧ va_P (dC, dI) vwCl (va_pl L f2) t.heap ∧ va_D (va_A (va_pl L f) sz) (va_pl L f2)) (va_A (va_pl L f) sz)) 0 0 (va_A (va_pl L f) sz) := by
  refine Met.ofW (cc := cX1_hold) (maxL := 3) (ret := none) (by decide) rfl ?_
  intro p e s m args below meth c s₁ B hml hv
  obtain ⟨rfl, hsz, hP, hK, hD0, hst⟩ := hv
  have hx := B.exec
  have hb := B.bytes
  have hr := B.returns
  have hts := atoms_spec (ws := wsX1_hold) B.pre
  have hown : s.vm.findClass RX1 = some m.cls := findClass_of_methodNamed B.named
  have hlocks := B.notSynchronized
  have iX1_ := in_u_X1_hold_X1
  subst hsz
  have hD := hD0.self (sz := s.heap.size)
  generalize hAe : va_A (va_pl L f) s.heap.size = A at hD hst ⊢
  have hA : ∀ q : Nat, s.heap.size ≤ q → A q := fun q h => by rw [← hAe]; exact Or.inr h
  have hS : va_S A s.heap s.heap [] := va_S.rf
  have hl := lv_entry ([.ref x0, .int w0, .ref y0]) (n := 3) (Nat.le_of_ble_eq_true rfl)
  rw [lg_entry_eq]
  generalize (lg_sl ([.ref x0, .int w0, .ref y0]) ++ List.replicate (3 - (lg_sl ([.ref x0, .int w0, .ref y0])).length) Slot.unset).toArray = ls at hl ⊢
  have hl : lv_has ls 3 [(0, .ref x0), (1, .int w0), (2, .ref y0)] := hl
  refine lv_iload_n hx hb dX1_hold_0 rfl (lv_at hl 1 rfl) ?_
  have swp : True := trivial
  by_cases sv_1 : w0.toInt = 8
  · refine lv_lookup (off := 35) (tgt := 36) hx hb dX1_hold_1 (by decide) (by rw [sv_1]; rfl) (by decide) ?_
    refine lv_aload_n hx hb dX1_hold_36 rfl (lv_at hl 0 rfl) ?_
    refine lv_aload_n hx hb dX1_hold_37 rfl (lv_at hl 2 rfl) ?_
    obtain ⟨cn_2, v_2, b_2, m_2, st_2, i_2, e_2, fv_2, fb_2, fm_2, fst_2, fi_2⟩ := hPI.a1 hx0
    obtain ⟨k_2, hk_2⟩ := va_plg hx0.1 e_2
    have hD9 := hD
    refine va_put (D := (dC, dI)) (ci := 1) (v := .ref y0) (ty := .object "FieldLeaves$Thing") (C := RX1) (T := TX1) (N := 6) hx hb hts iX1_ tyX1 tyX1_ok nmX1 hown hK hP hD hS k_2 hk_2 rfl 2 (by decide) (hts (.fieldLink RX1 19 "FieldLeaves$Thing" "baseLink" "LFieldLeaves$Thing;") (by decide +kernel)) (fun _ h9 => h9) rfl (by decide +kernel) rfl rfl (Nat.le_of_ble_eq_true rfl) dX1_hold_38 (fun H locs hP hD hS => ?_)
    have op_3 : opr K L 1 (some y0) := fun _ h9 => by cases h9; exact hy0
    have hP : va_P (dC, dI) vwCl (va_pl L (va_up f x0 (.inr (1, [.int cn_2, .ref v_2, va_rf (some y0), va_rf m_2, va_rf st_2, va_rf i_2])))) H := by rw [← va_pls hD9 hx0.1 hk_2 _]; exact hP
    have hD : va_D A (va_pl L (va_up f x0 (.inr (1, [.int cn_2, .ref v_2, va_rf (some y0), va_rf m_2, va_rf st_2, va_rf i_2])))) := by rw [← va_pls hD9 hx0.1 hk_2 _]; exact hD
    have hPI := hPI.put (e := .inr (1, [.int cn_2, .ref v_2, va_rf (some y0), va_rf m_2, va_rf st_2, va_rf i_2])) hx0 ⟨cn_2, v_2, (some y0), m_2, st_2, i_2, rfl, fv_2, op_3, fm_2, fst_2, fi_2⟩
    have es_f_4 : va_up f x0 (.inr (1, [.int cn_2, .ref v_2, va_rf (some y0), va_rf m_2, va_rf st_2, va_rf i_2])) x0 = .inr (1, [.int cn_2, .ref v_2, va_rf (some y0), va_rf m_2, va_rf st_2, va_rf i_2]) := va_up_self _ _ _
    generalize hg_f_4 : va_up f x0 (.inr (1, [.int cn_2, .ref v_2, va_rf (some y0), va_rf m_2, va_rf st_2, va_rf i_2])) = f_4 at hP hD hPI es_f_4 
    refine lv_goto (tgt := 60) hx hb dX1_hold_41 (by decide) ?_
    exact W.vret hx hb hr (fun t ht hW => ⟨⟨(), rfl, trivial, f_4, hPI, (by subst hg_f_4; have hc0 := congrArg Int32.toInt (th_cn e_2); have hc1 := congrArg Int32.toInt (th_cn es_f_4); first | (simp only [ks_hold, th_cn e_2, th_pv e_2, th_b e_2, th_m e_2, th_s e_2, th_lk e_2, th_cn es_f_4, th_pv es_f_4, th_b es_f_4, th_m es_f_4, th_s es_f_4, th_lk es_f_4, cl_0, cl_1, cl_2, cl_4, cl_10, cl_13, cl_16, s_F_of e_2, List.set_cons_succ, List.set_cons_zero]; done) | (simp only [ks_hold, th_cn e_2, th_pv e_2, th_b e_2, th_m e_2, th_s e_2, th_lk e_2, th_cn es_f_4, th_pv es_f_4, th_b es_f_4, th_m es_f_4, th_s es_f_4, th_lk es_f_4, cl_0, cl_1, cl_2, cl_4, cl_10, cl_13, cl_16, s_F_of e_2, List.set_cons_succ, List.set_cons_zero] <;> (repeat' split) <;> first | rfl | (exfalso; omega) | contradiction | (simp only [ks_hold, th_cn e_2, th_pv e_2, th_b e_2, th_m e_2, th_s e_2, th_lk e_2, th_cn es_f_4, th_pv es_f_4, th_b es_f_4, th_m es_f_4, th_s es_f_4, th_lk es_f_4, cl_0, cl_1, cl_2, cl_4, cl_10, cl_13, cl_16, s_F_of e_2, List.set_cons_succ, List.set_cons_zero]; done) | (simp_all; done) | (simp_all; simp only [ks_hold, th_cn e_2, th_pv e_2, th_b e_2, th_m e_2, th_s e_2, th_lk e_2, th_cn es_f_4, th_pv es_f_4, th_b es_f_4, th_m es_f_4, th_s es_f_4, th_lk es_f_4, cl_0, cl_1, cl_2, cl_4, cl_10, cl_13, cl_16, s_F_of e_2, List.set_cons_succ, List.set_cons_zero]))), by rw [ht]; exact hP, hD⟩, hS.F ht⟩) hS.2.2 dX1_hold_60
  · by_cases sv_5 : w0.toInt = 11
    · refine lv_lookup (off := 43) (tgt := 44) hx hb dX1_hold_1 (by decide) (by rw [sv_5]; rfl) (by decide) ?_
      refine lv_aload_n hx hb dX1_hold_44 rfl (lv_at hl 0 rfl) ?_
      refine lv_aload_n hx hb dX1_hold_45 rfl (lv_at hl 2 rfl) ?_
      obtain ⟨cn_6, v_6, b_6, m_6, st_6, i_6, e_6, fv_6, fb_6, fm_6, fst_6, fi_6⟩ := hPI.a1 hx0
      obtain ⟨k_6, hk_6⟩ := va_plg hx0.1 e_6
      have hD9 := hD
      refine va_put (D := (dC, dI)) (ci := 1) (v := .ref y0) (ty := .object "FieldLeaves$Thing") (C := RX1) (T := TX1) (N := 6) hx hb hts iX1_ tyX1 tyX1_ok nmX1 hown hK hP hD hS k_6 hk_6 rfl 3 (by decide) (hts (.fieldLink RX1 23 "FieldLeaves$Thing" "middleLink" "LFieldLeaves$Thing;") (by decide +kernel)) (fun _ h9 => h9) rfl (by decide +kernel) rfl rfl (Nat.le_of_ble_eq_true rfl) dX1_hold_46 (fun H locs hP hD hS => ?_)
      have op_7 : opr K L 1 (some y0) := fun _ h9 => by cases h9; exact hy0
      have hP : va_P (dC, dI) vwCl (va_pl L (va_up f x0 (.inr (1, [.int cn_6, .ref v_6, va_rf b_6, va_rf (some y0), va_rf st_6, va_rf i_6])))) H := by rw [← va_pls hD9 hx0.1 hk_6 _]; exact hP
      have hD : va_D A (va_pl L (va_up f x0 (.inr (1, [.int cn_6, .ref v_6, va_rf b_6, va_rf (some y0), va_rf st_6, va_rf i_6])))) := by rw [← va_pls hD9 hx0.1 hk_6 _]; exact hD
      have hPI := hPI.put (e := .inr (1, [.int cn_6, .ref v_6, va_rf b_6, va_rf (some y0), va_rf st_6, va_rf i_6])) hx0 ⟨cn_6, v_6, b_6, (some y0), st_6, i_6, rfl, fv_6, fb_6, op_7, fst_6, fi_6⟩
      have es_f_8 : va_up f x0 (.inr (1, [.int cn_6, .ref v_6, va_rf b_6, va_rf (some y0), va_rf st_6, va_rf i_6])) x0 = .inr (1, [.int cn_6, .ref v_6, va_rf b_6, va_rf (some y0), va_rf st_6, va_rf i_6]) := va_up_self _ _ _
      generalize hg_f_8 : va_up f x0 (.inr (1, [.int cn_6, .ref v_6, va_rf b_6, va_rf (some y0), va_rf st_6, va_rf i_6])) = f_8 at hP hD hPI es_f_8 
      refine lv_goto (tgt := 60) hx hb dX1_hold_49 (by decide) ?_
      exact W.vret hx hb hr (fun t ht hW => ⟨⟨(), rfl, trivial, f_8, hPI, (by subst hg_f_8; have hc0 := congrArg Int32.toInt (th_cn e_6); have hc1 := congrArg Int32.toInt (th_cn es_f_8); first | (simp only [ks_hold, th_cn e_6, th_pv e_6, th_b e_6, th_m e_6, th_s e_6, th_lk e_6, th_cn es_f_8, th_pv es_f_8, th_b es_f_8, th_m es_f_8, th_s es_f_8, th_lk es_f_8, cl_0, cl_1, cl_2, cl_4, cl_10, cl_13, cl_16, s_F_of e_6, List.set_cons_succ, List.set_cons_zero]; done) | (simp only [ks_hold, th_cn e_6, th_pv e_6, th_b e_6, th_m e_6, th_s e_6, th_lk e_6, th_cn es_f_8, th_pv es_f_8, th_b es_f_8, th_m es_f_8, th_s es_f_8, th_lk es_f_8, cl_0, cl_1, cl_2, cl_4, cl_10, cl_13, cl_16, s_F_of e_6, List.set_cons_succ, List.set_cons_zero] <;> (repeat' split) <;> first | rfl | (exfalso; omega) | contradiction | (simp only [ks_hold, th_cn e_6, th_pv e_6, th_b e_6, th_m e_6, th_s e_6, th_lk e_6, th_cn es_f_8, th_pv es_f_8, th_b es_f_8, th_m es_f_8, th_s es_f_8, th_lk es_f_8, cl_0, cl_1, cl_2, cl_4, cl_10, cl_13, cl_16, s_F_of e_6, List.set_cons_succ, List.set_cons_zero]; done) | (simp_all; done) | (simp_all; simp only [ks_hold, th_cn e_6, th_pv e_6, th_b e_6, th_m e_6, th_s e_6, th_lk e_6, th_cn es_f_8, th_pv es_f_8, th_b es_f_8, th_m es_f_8, th_s es_f_8, th_lk es_f_8, cl_0, cl_1, cl_2, cl_4, cl_10, cl_13, cl_16, s_F_of e_6, List.set_cons_succ, List.set_cons_zero]))), by rw [ht]; exact hP, hD⟩, hS.F ht⟩) hS.2.2 dX1_hold_60
    · by_cases sv_9 : w0.toInt = 15
      · refine lv_lookup (off := 51) (tgt := 52) hx hb dX1_hold_1 (by decide) (by rw [sv_9]; rfl) (by decide) ?_
        refine lv_aload_n hx hb dX1_hold_52 rfl (lv_at hl 0 rfl) ?_
        refine lv_aload_n hx hb dX1_hold_53 rfl (lv_at hl 2 rfl) ?_
        obtain ⟨cn_10, v_10, b_10, m_10, st_10, i_10, e_10, fv_10, fb_10, fm_10, fst_10, fi_10⟩ := hPI.a1 hx0
        obtain ⟨k_10, hk_10⟩ := va_plg hx0.1 e_10
        have hD9 := hD
        refine va_put (D := (dC, dI)) (ci := 1) (v := .ref y0) (ty := .object "FieldLeaves$Thing") (C := RX1) (T := TX1) (N := 6) hx hb hts iX1_ tyX1 tyX1_ok nmX1 hown hK hP hD hS k_10 hk_10 rfl 4 (by decide) (hts (.fieldLink RX1 26 "FieldLeaves$Thing" "strayBack" "LFieldLeaves$Thing;") (by decide +kernel)) (fun _ h9 => h9) rfl (by decide +kernel) rfl rfl (Nat.le_of_ble_eq_true rfl) dX1_hold_54 (fun H locs hP hD hS => ?_)
        have op_11 : opr K L 1 (some y0) := fun _ h9 => by cases h9; exact hy0
        have hP : va_P (dC, dI) vwCl (va_pl L (va_up f x0 (.inr (1, [.int cn_10, .ref v_10, va_rf b_10, va_rf m_10, va_rf (some y0), va_rf i_10])))) H := by rw [← va_pls hD9 hx0.1 hk_10 _]; exact hP
        have hD : va_D A (va_pl L (va_up f x0 (.inr (1, [.int cn_10, .ref v_10, va_rf b_10, va_rf m_10, va_rf (some y0), va_rf i_10])))) := by rw [← va_pls hD9 hx0.1 hk_10 _]; exact hD
        have hPI := hPI.put (e := .inr (1, [.int cn_10, .ref v_10, va_rf b_10, va_rf m_10, va_rf (some y0), va_rf i_10])) hx0 ⟨cn_10, v_10, b_10, m_10, (some y0), i_10, rfl, fv_10, fb_10, fm_10, op_11, fi_10⟩
        have es_f_12 : va_up f x0 (.inr (1, [.int cn_10, .ref v_10, va_rf b_10, va_rf m_10, va_rf (some y0), va_rf i_10])) x0 = .inr (1, [.int cn_10, .ref v_10, va_rf b_10, va_rf m_10, va_rf (some y0), va_rf i_10]) := va_up_self _ _ _
        generalize hg_f_12 : va_up f x0 (.inr (1, [.int cn_10, .ref v_10, va_rf b_10, va_rf m_10, va_rf (some y0), va_rf i_10])) = f_12 at hP hD hPI es_f_12 
        refine lv_goto (tgt := 60) hx hb dX1_hold_57 (by decide) ?_
        exact W.vret hx hb hr (fun t ht hW => ⟨⟨(), rfl, trivial, f_12, hPI, (by subst hg_f_12; have hc0 := congrArg Int32.toInt (th_cn e_10); have hc1 := congrArg Int32.toInt (th_cn es_f_12); first | (simp only [ks_hold, th_cn e_10, th_pv e_10, th_b e_10, th_m e_10, th_s e_10, th_lk e_10, th_cn es_f_12, th_pv es_f_12, th_b es_f_12, th_m es_f_12, th_s es_f_12, th_lk es_f_12, cl_0, cl_1, cl_2, cl_4, cl_10, cl_13, cl_16, s_F_of e_10, List.set_cons_succ, List.set_cons_zero]; done) | (simp only [ks_hold, th_cn e_10, th_pv e_10, th_b e_10, th_m e_10, th_s e_10, th_lk e_10, th_cn es_f_12, th_pv es_f_12, th_b es_f_12, th_m es_f_12, th_s es_f_12, th_lk es_f_12, cl_0, cl_1, cl_2, cl_4, cl_10, cl_13, cl_16, s_F_of e_10, List.set_cons_succ, List.set_cons_zero] <;> (repeat' split) <;> first | rfl | (exfalso; omega) | contradiction | (simp only [ks_hold, th_cn e_10, th_pv e_10, th_b e_10, th_m e_10, th_s e_10, th_lk e_10, th_cn es_f_12, th_pv es_f_12, th_b es_f_12, th_m es_f_12, th_s es_f_12, th_lk es_f_12, cl_0, cl_1, cl_2, cl_4, cl_10, cl_13, cl_16, s_F_of e_10, List.set_cons_succ, List.set_cons_zero]; done) | (simp_all; done) | (simp_all; simp only [ks_hold, th_cn e_10, th_pv e_10, th_b e_10, th_m e_10, th_s e_10, th_lk e_10, th_cn es_f_12, th_pv es_f_12, th_b es_f_12, th_m es_f_12, th_s es_f_12, th_lk es_f_12, cl_0, cl_1, cl_2, cl_4, cl_10, cl_13, cl_16, s_F_of e_10, List.set_cons_succ, List.set_cons_zero]))), by rw [ht]; exact hP, hD⟩, hS.F ht⟩) hS.2.2 dX1_hold_60
      · refine lv_lookup (off := 59) (tgt := 60) hx hb dX1_hold_1 (by decide) (by simp [Op.lookupswitch.offset, sv_1, Ne.symm sv_1, sv_5, Ne.symm sv_5, sv_9, Ne.symm sv_9]) (by decide) ?_
        exact W.vret hx hb hr (fun t ht hW => ⟨⟨(), rfl, trivial, f, hPI, (by first | (simp only [ks_hold, cl_0, cl_1, cl_2, cl_4, cl_10, cl_13, cl_16, List.set_cons_succ, List.set_cons_zero]; done) | (simp only [ks_hold, cl_0, cl_1, cl_2, cl_4, cl_10, cl_13, cl_16, List.set_cons_succ, List.set_cons_zero] <;> (repeat' split) <;> first | rfl | (exfalso; omega) | contradiction | (simp only [ks_hold, cl_0, cl_1, cl_2, cl_4, cl_10, cl_13, cl_16, List.set_cons_succ, List.set_cons_zero]; done) | (simp_all; done) | (simp_all; simp only [ks_hold, cl_0, cl_1, cl_2, cl_4, cl_10, cl_13, cl_16, List.set_cons_succ, List.set_cons_zero]))), by rw [ht]; exact hP, hD⟩, hS.F ht⟩) hS.2.2 dX1_hold_60

