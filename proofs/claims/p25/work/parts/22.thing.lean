set_option maxRecDepth 20000 in
theorem in_t_X1_held_X1 : ∀ w ∈ u_ws RX1 TX1 6, w ∈ wsX1_held := by decide +kernel
set_option maxRecDepth 100000 in
set_option maxHeartbeats 4000000 in
theorem t_X1_held (l : Launch) (dC : Nat → ClassId) (dI : Nat → Nat → Nat) (TT : Nat × Nat × Nat) (sz : Nat) (kT kI kJ : ClassId) (K : Nat → Nat) (L : List Nat) (f : Nat → va_E) (hPI : PI kT kI kJ K L f) (x0 : Nat) (hx0 : isr K L 1 x0) (w0 : Int32) : Met l yX1_held wsX1_held ({ frames := 0, cells := 0, slots := 0, locals := 0 } : Room) (va_Pc [.ref x0, .int w0] (pr dC dI (va_pl L f) [] [(kT, .object RX1), (kI, .int), (kJ, .long)] sz TT)) (va_Qq (fun (r : Option Nat) (u : Unit) => opr K L 1 r) (fun _ _ => True) (va_A [] sz)) 0 0 (va_A [] sz) := by
  refine Met.ofW (cc := cX1_held) (maxL := 2) (ret := (some (.object "FieldLeaves$Thing"))) (by decide) rfl ?_
  intro p e s m args below meth c s₁ B hml hv
  obtain ⟨rfl, hsz, hP, hK, hD0, hst⟩ := hv
  have hx := B.exec
  have hb := B.bytes
  have hr := B.returns
  have hts := atoms_spec (ws := wsX1_held) B.pre
  have hown : s.vm.findClass RX1 = some m.cls := findClass_of_methodNamed B.named
  have hlocks := B.notSynchronized
  have iX1_ := in_t_X1_held_X1
  subst hsz
  have hD := hD0.self (sz := s.heap.size)
  generalize hAe : va_A [] s.heap.size = A at hD hst ⊢
  have hA : ∀ q : Nat, s.heap.size ≤ q → A q := fun q h => by rw [← hAe]; exact Or.inr h
  have hS : va_S A s.heap s.heap [] := va_S.rf
  have hl := lv_entry ([.ref x0, .int w0]) (n := 2) (Nat.le_of_ble_eq_true rfl)
  rw [lg_entry_eq]
  generalize (lg_sl ([.ref x0, .int w0]) ++ List.replicate (2 - (lg_sl ([.ref x0, .int w0])).length) Slot.unset).toArray = ls at hl ⊢
  have hl : lv_has ls 2 [(0, .ref x0), (1, .int w0)] := hl
  refine lv_iload_n hx hb dX1_held_0 rfl (lv_at hl 1 rfl) ?_
  have swp : True := trivial
  by_cases sv_1 : w0.toInt = 8
  · refine lv_lookup (off := 35) (tgt := 36) hx hb dX1_held_1 (by decide) (by rw [sv_1]; rfl) (by decide) ?_
    refine lv_aload_n hx hb dX1_held_36 rfl (lv_at hl 0 rfl) ?_
    obtain ⟨cn_2, v_2, b_2, m_2, st_2, i_2, e_2, fv_2, fb_2, fm_2, fst_2, fi_2⟩ := hPI.a1 hx0
    obtain ⟨k_2, hk_2⟩ := va_plg hx0.1 e_2
    refine va_get (D := (dC, dI)) (ci := 1) (v := va_rf b_2) (C := RX1) (T := TX1) (N := 6) hx hb hts iX1_ hown hK hP k_2 hk_2 rfl 2 (by decide) (hts (.fieldLink RX1 19 "FieldLeaves$Thing" "baseLink" "LFieldLeaves$Thing;") (by decide +kernel)) (fun _ h9 => h9) rfl dX1_held_37 ?_
    rcases b_2 with _ | y_3
    · refine W.eq (g2 := F0 m 40 ls [.null]) rfl ?_
      exact W.aret (v := va_rf none) hx hb hr (Or.inl ⟨_, rfl⟩) (va_rf_or _) (fun t ht hW => ⟨⟨none, (), rfl, (fun _ h9 => by cases h9), trivial⟩, hS.F ht⟩) hS.2.2 dX1_held_40
    · have fy_3 := fb_2 y_3 rfl
      refine W.eq (g2 := F0 m 40 ls [.ref y_3]) rfl ?_
      exact W.aret (v := va_rf (some y_3)) hx hb hr (Or.inl ⟨_, rfl⟩) (va_rf_or _) (fun t ht hW => ⟨⟨(some y_3), (), rfl, (fun _ h9 => by cases h9; exact fy_3), trivial⟩, hS.F ht⟩) hS.2.2 dX1_held_40
  · by_cases sv_4 : w0.toInt = 11
    · refine lv_lookup (off := 40) (tgt := 41) hx hb dX1_held_1 (by decide) (by rw [sv_4]; rfl) (by decide) ?_
      refine lv_aload_n hx hb dX1_held_41 rfl (lv_at hl 0 rfl) ?_
      obtain ⟨cn_5, v_5, b_5, m_5, st_5, i_5, e_5, fv_5, fb_5, fm_5, fst_5, fi_5⟩ := hPI.a1 hx0
      obtain ⟨k_5, hk_5⟩ := va_plg hx0.1 e_5
      refine va_get (D := (dC, dI)) (ci := 1) (v := va_rf m_5) (C := RX1) (T := TX1) (N := 6) hx hb hts iX1_ hown hK hP k_5 hk_5 rfl 3 (by decide) (hts (.fieldLink RX1 23 "FieldLeaves$Thing" "middleLink" "LFieldLeaves$Thing;") (by decide +kernel)) (fun _ h9 => h9) rfl dX1_held_42 ?_
      rcases m_5 with _ | y_6
      · refine W.eq (g2 := F0 m 45 ls [.null]) rfl ?_
        exact W.aret (v := va_rf none) hx hb hr (Or.inl ⟨_, rfl⟩) (va_rf_or _) (fun t ht hW => ⟨⟨none, (), rfl, (fun _ h9 => by cases h9), trivial⟩, hS.F ht⟩) hS.2.2 dX1_held_45
      · have fy_6 := fm_5 y_6 rfl
        refine W.eq (g2 := F0 m 45 ls [.ref y_6]) rfl ?_
        exact W.aret (v := va_rf (some y_6)) hx hb hr (Or.inl ⟨_, rfl⟩) (va_rf_or _) (fun t ht hW => ⟨⟨(some y_6), (), rfl, (fun _ h9 => by cases h9; exact fy_6), trivial⟩, hS.F ht⟩) hS.2.2 dX1_held_45
    · by_cases sv_7 : w0.toInt = 15
      · refine lv_lookup (off := 45) (tgt := 46) hx hb dX1_held_1 (by decide) (by rw [sv_7]; rfl) (by decide) ?_
        refine lv_aload_n hx hb dX1_held_46 rfl (lv_at hl 0 rfl) ?_
        obtain ⟨cn_8, v_8, b_8, m_8, st_8, i_8, e_8, fv_8, fb_8, fm_8, fst_8, fi_8⟩ := hPI.a1 hx0
        obtain ⟨k_8, hk_8⟩ := va_plg hx0.1 e_8
        refine va_get (D := (dC, dI)) (ci := 1) (v := va_rf st_8) (C := RX1) (T := TX1) (N := 6) hx hb hts iX1_ hown hK hP k_8 hk_8 rfl 4 (by decide) (hts (.fieldLink RX1 26 "FieldLeaves$Thing" "strayBack" "LFieldLeaves$Thing;") (by decide +kernel)) (fun _ h9 => h9) rfl dX1_held_47 ?_
        rcases st_8 with _ | y_9
        · refine W.eq (g2 := F0 m 50 ls [.null]) rfl ?_
          exact W.aret (v := va_rf none) hx hb hr (Or.inl ⟨_, rfl⟩) (va_rf_or _) (fun t ht hW => ⟨⟨none, (), rfl, (fun _ h9 => by cases h9), trivial⟩, hS.F ht⟩) hS.2.2 dX1_held_50
        · have fy_9 := fst_8 y_9 rfl
          refine W.eq (g2 := F0 m 50 ls [.ref y_9]) rfl ?_
          exact W.aret (v := va_rf (some y_9)) hx hb hr (Or.inl ⟨_, rfl⟩) (va_rf_or _) (fun t ht hW => ⟨⟨(some y_9), (), rfl, (fun _ h9 => by cases h9; exact fy_9), trivial⟩, hS.F ht⟩) hS.2.2 dX1_held_50
      · refine lv_lookup (off := 50) (tgt := 51) hx hb dX1_held_1 (by decide) (by simp [Op.lookupswitch.offset, sv_1, Ne.symm sv_1, sv_4, Ne.symm sv_4, sv_7, Ne.symm sv_7]) (by decide) ?_
        refine lv_null hx hb dX1_held_51 ?_
        exact W.aret (v := va_rf none) hx hb hr (Or.inl ⟨_, rfl⟩) (va_rf_or _) (fun t ht hW => ⟨⟨none, (), rfl, (fun _ h9 => by cases h9), trivial⟩, hS.F ht⟩) hS.2.2 dX1_held_52
