set_option maxRecDepth 100000 in
set_option maxHeartbeats 4000000 in
theorem v_X3_valueOf (l : Launch) (dC : Nat → ClassId) (dI : Nat → Nat → Nat) (TT : Nat × Nat × Nat) (sz : Nat) (kI kJ kZ : ClassId) (K : Nat → Nat) (L : List Nat) (f : Nat → va_E) (hPI : PR kI kJ kZ K L f) (f0 : Int32) (v0 : Int64) : Met l yX3_valueOf wsX3_valueOf ({ frames := 0, cells := 0, slots := 0, locals := 0 } : Room) (va_Pc [.int f0, .long v0] (pr dC dI (va_pl L f) [] [(kI, .int), (kJ, .long), (kZ, .boolean)] sz TT)) (va_Ql (fun (r : Int64) (u : Unit) => r = rs_val f0 v0) (fun _ _ => True) (va_A [] sz)) 0 0 (va_A [] sz) := by
  refine Met.ofW (cc := cX3_valueOf) (maxL := 3) (ret := (some .long)) (by decide) rfl ?_
  intro p e s m args below meth c s₁ B hml hv
  obtain ⟨rfl, hsz, hP, hK, hD0, hst⟩ := hv
  have hx := B.exec
  have hb := B.bytes
  have hr := B.returns
  have hts := atoms_spec (ws := wsX3_valueOf) B.pre
  have hown : s.vm.findClass RX3 = some m.cls := findClass_of_methodNamed B.named
  have hlocks := B.notSynchronized
  subst hsz
  have hD := hD0.self (sz := s.heap.size)
  generalize hAe : va_A [] s.heap.size = A at hD hst ⊢
  have hA : ∀ q : Nat, s.heap.size ≤ q → A q := fun q h => by rw [← hAe]; exact Or.inr h
  have hS : va_S A s.heap s.heap [] := va_S.rf
  have hl := lv_entry ([.int f0, .long v0]) (n := 3) (Nat.le_of_ble_eq_true rfl)
  rw [lg_entry_eq]
  generalize (lg_sl ([.int f0, .long v0]) ++ List.replicate (3 - (lg_sl ([.int f0, .long v0])).length) Slot.unset).toArray = ls at hl ⊢
  have hl : lv_has ls 3 [(0, .int f0), (1, .long v0)] := hl
  have k2139095040_ : Int32.toInt 2139095040 = 2139095040 := by decide
  have kl2143289344_ : Int64.toInt 2143289344 = 2143289344 := by decide
  have kl9218868437227405312_ : Int64.toInt 9218868437227405312 = 9218868437227405312 := by decide
  have kl9221120237041090560_ : Int64.toInt 9221120237041090560 = 9221120237041090560 := by decide
  refine lv_iload_n hx hb dX3_valueOf_0 rfl (lv_at hl 0 rfl) ?_
  by_cases sw_1 : f0.toInt < 0 ∨ 14 < f0.toInt
  · refine lv_tableOut (tgt := 148) hx hb dX3_valueOf_1 sw_1 (by decide) ?_
    refine lv_lload_n hx hb dX3_valueOf_148 rfl (lv_at hl 1 rfl) ?_
    refine lv_l2i hx hb dX3_valueOf_149 rfl ?_
    refine lv_topi (fun z_1 ez_1 => ?_)
    refine lv_i2l (v := Int32.toInt64 z_1) hx hb dX3_valueOf_150 rfl ?_
    have k_z_2 := Int32.toInt_toInt64 z_1
    exact W.lret (v := (Int32.toInt64 z_1)) hx hb hr (fun t ht hW => ⟨⟨(Int32.toInt64 z_1), (), rfl, (by first | (simp only [rs_val, ← ez_1, k2139095040_, ↓reduceIte, and_self, and_true, true_and, and_false, false_and, or_self, or_true, true_or, or_false, false_or, not_true_eq_false, not_false_eq_true, eq_self, Int.reduceLE, Int.reduceLT, Int.reduceEq]; done) | (simp only [rs_val, ← ez_1, k2139095040_, ↓reduceIte, and_self, and_true, true_and, and_false, false_and, or_self, or_true, true_or, or_false, false_or, not_true_eq_false, not_false_eq_true, eq_self, Int.reduceLE, Int.reduceLT, Int.reduceEq] <;> (repeat' split) <;> first | with_reducible rfl | with_reducible assumption | (exfalso; omega) | rfl | trivial | assumption) | (simp only [rs_val, ← ez_1]; done) | (simp only [rs_val, ← ez_1] <;> (repeat' split) <;> first | (exfalso; omega) | rfl) | (simp only [rs_val, ez_1] <;> (repeat' split) <;> first | (exfalso; omega) | rfl | contradiction) | (subst ez_1; simp only [rs_val] <;> (repeat' split) <;> first | (exfalso; omega) | rfl)), trivial⟩, hS.F ht⟩) hS.2.2 dX3_valueOf_151
  · rcases (show f0.toInt = 0 ∨ f0.toInt = 1 ∨ f0.toInt = 2 ∨ f0.toInt = 3 ∨ f0.toInt = 4 ∨ f0.toInt = 5 ∨ f0.toInt = 6 ∨ f0.toInt = 7 ∨ f0.toInt = 8 ∨ f0.toInt = 9 ∨ f0.toInt = 10 ∨ f0.toInt = 11 ∨ f0.toInt = 12 ∨ f0.toInt = 13 ∨ f0.toInt = 14 by omega) with sv_1 | sv_1 | sv_1 | sv_1 | sv_1 | sv_1 | sv_1 | sv_1 | sv_1 | sv_1 | sv_1 | sv_1 | sv_1 | sv_1 | sv_1
    · refine lv_tableIn (off := 75) (tgt := 76) hx hb dX3_valueOf_1 (by omega) (by omega) (by rw [sv_1]; rfl) (by decide) ?_
      refine lv_lload_n hx hb dX3_valueOf_76 rfl (lv_at hl 1 rfl) ?_
      refine lv_lconst (v := 1) hx hb dX3_valueOf_77 (by decide) ?_
      refine lv_land hx hb dX3_valueOf_78 ?_
      refine lv_topl (fun z_3 ez_3 => ?_)
      exact W.lret (v := z_3) hx hb hr (fun t ht hW => ⟨⟨z_3, (), rfl, (by first | (simp only [rs_val, ← ez_3, sv_1, k2139095040_, ↓reduceIte, and_self, and_true, true_and, and_false, false_and, or_self, or_true, true_or, or_false, false_or, not_true_eq_false, not_false_eq_true, eq_self, Int.reduceLE, Int.reduceLT, Int.reduceEq]; done) | (simp only [rs_val, ← ez_3, sv_1, k2139095040_, ↓reduceIte, and_self, and_true, true_and, and_false, false_and, or_self, or_true, true_or, or_false, false_or, not_true_eq_false, not_false_eq_true, eq_self, Int.reduceLE, Int.reduceLT, Int.reduceEq] <;> (repeat' split) <;> first | with_reducible rfl | with_reducible assumption | (exfalso; omega) | rfl | trivial | assumption) | (simp only [rs_val, ← ez_3]; done) | (simp only [rs_val, ← ez_3] <;> (repeat' split) <;> first | (exfalso; omega) | rfl) | (simp only [rs_val, ez_3] <;> (repeat' split) <;> first | (exfalso; omega) | rfl | contradiction) | (subst ez_3; simp only [rs_val] <;> (repeat' split) <;> first | (exfalso; omega) | rfl)), trivial⟩, hS.F ht⟩) hS.2.2 dX3_valueOf_79
    · refine lv_tableIn (off := 79) (tgt := 80) hx hb dX3_valueOf_1 (by omega) (by omega) (by rw [sv_1]; rfl) (by decide) ?_
      refine lv_lload_n hx hb dX3_valueOf_80 rfl (lv_at hl 1 rfl) ?_
      refine lv_l2i hx hb dX3_valueOf_81 rfl ?_
      refine lv_topi (fun z_4 ez_4 => ?_)
      refine lv_bipush (v := 24) hx hb dX3_valueOf_82 (by decide) ?_
      refine lv_ishl hx hb dX3_valueOf_84 ?_
      refine lv_topi (fun z_5 ez_5 => ?_)
      refine lv_bipush (v := 24) hx hb dX3_valueOf_85 (by decide) ?_
      refine lv_ishr hx hb dX3_valueOf_87 ?_
      refine lv_topi (fun z_6 ez_6 => ?_)
      refine lv_i2l (v := Int32.toInt64 z_6) hx hb dX3_valueOf_88 rfl ?_
      have k_z_7 := Int32.toInt_toInt64 z_6
      exact W.lret (v := (Int32.toInt64 z_6)) hx hb hr (fun t ht hW => ⟨⟨(Int32.toInt64 z_6), (), rfl, (by first | (simp only [rs_val, ← ez_4, ← ez_5, ← ez_6, sv_1, k2139095040_, ↓reduceIte, and_self, and_true, true_and, and_false, false_and, or_self, or_true, true_or, or_false, false_or, not_true_eq_false, not_false_eq_true, eq_self, Int.reduceLE, Int.reduceLT, Int.reduceEq]; done) | (simp only [rs_val, ← ez_4, ← ez_5, ← ez_6, sv_1, k2139095040_, ↓reduceIte, and_self, and_true, true_and, and_false, false_and, or_self, or_true, true_or, or_false, false_or, not_true_eq_false, not_false_eq_true, eq_self, Int.reduceLE, Int.reduceLT, Int.reduceEq] <;> (repeat' split) <;> first | with_reducible rfl | with_reducible assumption | (exfalso; omega) | rfl | trivial | assumption) | (simp only [rs_val, ← ez_4, ← ez_5, ← ez_6]; done) | (simp only [rs_val, ← ez_4, ← ez_5, ← ez_6] <;> (repeat' split) <;> first | (exfalso; omega) | rfl) | (simp only [rs_val, ez_4, ez_5, ez_6] <;> (repeat' split) <;> first | (exfalso; omega) | rfl | contradiction) | (subst ez_4 ez_5 ez_6; simp only [rs_val] <;> (repeat' split) <;> first | (exfalso; omega) | rfl)), trivial⟩, hS.F ht⟩) hS.2.2 dX3_valueOf_89
    · refine lv_tableIn (off := 89) (tgt := 90) hx hb dX3_valueOf_1 (by omega) (by omega) (by rw [sv_1]; rfl) (by decide) ?_
      refine lv_lload_n hx hb dX3_valueOf_90 rfl (lv_at hl 1 rfl) ?_
      refine lv_l2i hx hb dX3_valueOf_91 rfl ?_
      refine lv_topi (fun z_8 ez_8 => ?_)
      refine lv_bipush (v := 16) hx hb dX3_valueOf_92 (by decide) ?_
      refine lv_ishl hx hb dX3_valueOf_94 ?_
      refine lv_topi (fun z_9 ez_9 => ?_)
      refine lv_bipush (v := 16) hx hb dX3_valueOf_95 (by decide) ?_
      refine lv_ishr hx hb dX3_valueOf_97 ?_
      refine lv_topi (fun z_10 ez_10 => ?_)
      refine lv_i2l (v := Int32.toInt64 z_10) hx hb dX3_valueOf_98 rfl ?_
      have k_z_11 := Int32.toInt_toInt64 z_10
      exact W.lret (v := (Int32.toInt64 z_10)) hx hb hr (fun t ht hW => ⟨⟨(Int32.toInt64 z_10), (), rfl, (by first | (simp only [rs_val, ← ez_8, ← ez_9, ← ez_10, sv_1, k2139095040_, ↓reduceIte, and_self, and_true, true_and, and_false, false_and, or_self, or_true, true_or, or_false, false_or, not_true_eq_false, not_false_eq_true, eq_self, Int.reduceLE, Int.reduceLT, Int.reduceEq]; done) | (simp only [rs_val, ← ez_8, ← ez_9, ← ez_10, sv_1, k2139095040_, ↓reduceIte, and_self, and_true, true_and, and_false, false_and, or_self, or_true, true_or, or_false, false_or, not_true_eq_false, not_false_eq_true, eq_self, Int.reduceLE, Int.reduceLT, Int.reduceEq] <;> (repeat' split) <;> first | with_reducible rfl | with_reducible assumption | (exfalso; omega) | rfl | trivial | assumption) | (simp only [rs_val, ← ez_8, ← ez_9, ← ez_10]; done) | (simp only [rs_val, ← ez_8, ← ez_9, ← ez_10] <;> (repeat' split) <;> first | (exfalso; omega) | rfl) | (simp only [rs_val, ez_8, ez_9, ez_10] <;> (repeat' split) <;> first | (exfalso; omega) | rfl | contradiction) | (subst ez_8 ez_9 ez_10; simp only [rs_val] <;> (repeat' split) <;> first | (exfalso; omega) | rfl)), trivial⟩, hS.F ht⟩) hS.2.2 dX3_valueOf_99
    · refine lv_tableIn (off := 99) (tgt := 100) hx hb dX3_valueOf_1 (by omega) (by omega) (by rw [sv_1]; rfl) (by decide) ?_
      refine lv_lload_n hx hb dX3_valueOf_100 rfl (lv_at hl 1 rfl) ?_
      refine lv_ldc2 hx hb hown (hts (.constantLong RX3 109 (65535)) (by decide +kernel)) dX3_valueOf_101 ?_
      refine lv_land hx hb dX3_valueOf_104 ?_
      refine lv_topl (fun z_12 ez_12 => ?_)
      exact W.lret (v := z_12) hx hb hr (fun t ht hW => ⟨⟨z_12, (), rfl, (by first | (simp only [rs_val, ← ez_12, sv_1, k2139095040_, ↓reduceIte, and_self, and_true, true_and, and_false, false_and, or_self, or_true, true_or, or_false, false_or, not_true_eq_false, not_false_eq_true, eq_self, Int.reduceLE, Int.reduceLT, Int.reduceEq]; done) | (simp only [rs_val, ← ez_12, sv_1, k2139095040_, ↓reduceIte, and_self, and_true, true_and, and_false, false_and, or_self, or_true, true_or, or_false, false_or, not_true_eq_false, not_false_eq_true, eq_self, Int.reduceLE, Int.reduceLT, Int.reduceEq] <;> (repeat' split) <;> first | with_reducible rfl | with_reducible assumption | (exfalso; omega) | rfl | trivial | assumption) | (simp only [rs_val, ← ez_12]; done) | (simp only [rs_val, ← ez_12] <;> (repeat' split) <;> first | (exfalso; omega) | rfl) | (simp only [rs_val, ez_12] <;> (repeat' split) <;> first | (exfalso; omega) | rfl | contradiction) | (subst ez_12; simp only [rs_val] <;> (repeat' split) <;> first | (exfalso; omega) | rfl)), trivial⟩, hS.F ht⟩) hS.2.2 dX3_valueOf_105
    · refine lv_tableIn (off := 147) (tgt := 148) hx hb dX3_valueOf_1 (by omega) (by omega) (by rw [sv_1]; rfl) (by decide) ?_
      refine lv_lload_n hx hb dX3_valueOf_148 rfl (lv_at hl 1 rfl) ?_
      refine lv_l2i hx hb dX3_valueOf_149 rfl ?_
      refine lv_topi (fun z_13 ez_13 => ?_)
      refine lv_i2l (v := Int32.toInt64 z_13) hx hb dX3_valueOf_150 rfl ?_
      have k_z_14 := Int32.toInt_toInt64 z_13
      exact W.lret (v := (Int32.toInt64 z_13)) hx hb hr (fun t ht hW => ⟨⟨(Int32.toInt64 z_13), (), rfl, (by first | (simp only [rs_val, ← ez_13, sv_1, k2139095040_, ↓reduceIte, and_self, and_true, true_and, and_false, false_and, or_self, or_true, true_or, or_false, false_or, not_true_eq_false, not_false_eq_true, eq_self, Int.reduceLE, Int.reduceLT, Int.reduceEq]; done) | (simp only [rs_val, ← ez_13, sv_1, k2139095040_, ↓reduceIte, and_self, and_true, true_and, and_false, false_and, or_self, or_true, true_or, or_false, false_or, not_true_eq_false, not_false_eq_true, eq_self, Int.reduceLE, Int.reduceLT, Int.reduceEq] <;> (repeat' split) <;> first | with_reducible rfl | with_reducible assumption | (exfalso; omega) | rfl | trivial | assumption) | (simp only [rs_val, ← ez_13]; done) | (simp only [rs_val, ← ez_13] <;> (repeat' split) <;> first | (exfalso; omega) | rfl) | (simp only [rs_val, ez_13] <;> (repeat' split) <;> first | (exfalso; omega) | rfl | contradiction) | (subst ez_13; simp only [rs_val] <;> (repeat' split) <;> first | (exfalso; omega) | rfl)), trivial⟩, hS.F ht⟩) hS.2.2 dX3_valueOf_151
    · refine lv_tableIn (off := 105) (tgt := 106) hx hb dX3_valueOf_1 (by omega) (by omega) (by rw [sv_1]; rfl) (by decide) ?_
      refine lv_lload_n hx hb dX3_valueOf_106 rfl (lv_at hl 1 rfl) ?_
      exact W.lret (v := v0) hx hb hr (fun t ht hW => ⟨⟨v0, (), rfl, (by first | (simp only [rs_val, sv_1, k2139095040_, ↓reduceIte, and_self, and_true, true_and, and_false, false_and, or_self, or_true, true_or, or_false, false_or, not_true_eq_false, not_false_eq_true, eq_self, Int.reduceLE, Int.reduceLT, Int.reduceEq]; done) | (simp only [rs_val, sv_1, k2139095040_, ↓reduceIte, and_self, and_true, true_and, and_false, false_and, or_self, or_true, true_or, or_false, false_or, not_true_eq_false, not_false_eq_true, eq_self, Int.reduceLE, Int.reduceLT, Int.reduceEq] <;> (repeat' split) <;> first | with_reducible rfl | with_reducible assumption | (exfalso; omega) | rfl | trivial | assumption) | (simp only [rs_val]; done) | (simp only [rs_val] <;> (repeat' split) <;> first | (exfalso; omega) | rfl) | (simp only [rs_val] <;> (repeat' split) <;> first | (exfalso; omega) | rfl | contradiction)), trivial⟩, hS.F ht⟩) hS.2.2 dX3_valueOf_107
    · refine lv_tableIn (off := 107) (tgt := 108) hx hb dX3_valueOf_1 (by omega) (by omega) (by rw [sv_1]; rfl) (by decide) ?_
      refine lv_lload_n hx hb dX3_valueOf_108 rfl (lv_at hl 1 rfl) ?_
      refine lv_l2i hx hb dX3_valueOf_109 rfl ?_
      refine lv_topi (fun z_15 ez_15 => ?_)
      refine lv_ldc hx hb hown (hts (.constant RX3 111 (2147483647)) (by decide +kernel)) dX3_valueOf_110 ?_
      refine lv_iand hx hb dX3_valueOf_112 ?_
      refine lv_topi (fun z_16 ez_16 => ?_)
      refine lv_ldc hx hb hown (hts (.constant RX3 112 (2139095040)) (by decide +kernel)) dX3_valueOf_113 ?_
      refine lv_icmp_le (tgt := 124) hx hb dX3_valueOf_115 (by decide) (fun c_17 => ?_) (fun c_17 => ?_)
      · have c_17 := Int32.le_iff_toInt_le.mp c_17
        refine lv_lload_n hx hb dX3_valueOf_124 rfl (lv_at hl 1 rfl) ?_
        refine lv_l2i hx hb dX3_valueOf_125 rfl ?_
        refine lv_topi (fun z_18 ez_18 => ?_)
        refine lv_i2l (v := Int32.toInt64 z_18) hx hb dX3_valueOf_126 rfl ?_
        have k_z_19 := Int32.toInt_toInt64 z_18
        exact W.lret (v := (Int32.toInt64 z_18)) hx hb hr (fun t ht hW => ⟨⟨(Int32.toInt64 z_18), (), rfl, (by first | ((try simp only [k2139095040_] at c_17); simp only [rs_val, ← ez_15, ← ez_16, ← ez_18, sv_1, c_17, k2139095040_, ↓reduceIte, and_self, and_true, true_and, and_false, false_and, or_self, or_true, true_or, or_false, false_or, not_true_eq_false, not_false_eq_true, eq_self, Int.reduceLE, Int.reduceLT, Int.reduceEq]; done) | ((try simp only [k2139095040_] at c_17); simp only [rs_val, ← ez_15, ← ez_16, ← ez_18, sv_1, c_17, k2139095040_, ↓reduceIte, and_self, and_true, true_and, and_false, false_and, or_self, or_true, true_or, or_false, false_or, not_true_eq_false, not_false_eq_true, eq_self, Int.reduceLE, Int.reduceLT, Int.reduceEq] <;> (repeat' split) <;> first | with_reducible rfl | with_reducible assumption | (exfalso; omega) | rfl | trivial | assumption) | (simp only [rs_val, ← ez_15, ← ez_16, ← ez_18]; done) | (simp only [rs_val, ← ez_15, ← ez_16, ← ez_18] <;> (repeat' split) <;> first | (exfalso; omega) | rfl) | (simp only [rs_val, ez_15, ez_16, ez_18] <;> (repeat' split) <;> first | (exfalso; omega) | rfl | contradiction) | (subst ez_15 ez_16 ez_18; simp only [rs_val] <;> (repeat' split) <;> first | (exfalso; omega) | rfl)), trivial⟩, hS.F ht⟩) hS.2.2 dX3_valueOf_127
      · have c_17 := mt Int32.le_iff_toInt_le.mpr c_17
        refine lv_ldc2 hx hb hown (hts (.constantLong RX3 113 (2143289344)) (by decide +kernel)) dX3_valueOf_118 ?_
        refine lv_goto (tgt := 127) hx hb dX3_valueOf_121 (by decide) ?_
        exact W.lret (v := 2143289344) hx hb hr (fun t ht hW => ⟨⟨2143289344, (), rfl, (by first | ((try simp only [k2139095040_] at c_17); simp only [rs_val, ← ez_15, ← ez_16, sv_1, c_17, k2139095040_, ↓reduceIte, and_self, and_true, true_and, and_false, false_and, or_self, or_true, true_or, or_false, false_or, not_true_eq_false, not_false_eq_true, eq_self, Int.reduceLE, Int.reduceLT, Int.reduceEq]; done) | ((try simp only [k2139095040_] at c_17); simp only [rs_val, ← ez_15, ← ez_16, sv_1, c_17, k2139095040_, ↓reduceIte, and_self, and_true, true_and, and_false, false_and, or_self, or_true, true_or, or_false, false_or, not_true_eq_false, not_false_eq_true, eq_self, Int.reduceLE, Int.reduceLT, Int.reduceEq] <;> (repeat' split) <;> first | with_reducible rfl | with_reducible assumption | (exfalso; omega) | rfl | trivial | assumption) | (simp only [rs_val, ← ez_15, ← ez_16]; done) | (simp only [rs_val, ← ez_15, ← ez_16] <;> (repeat' split) <;> first | (exfalso; omega) | rfl) | (simp only [rs_val, ez_15, ez_16] <;> (repeat' split) <;> first | (exfalso; omega) | rfl | contradiction) | (subst ez_15 ez_16; simp only [rs_val] <;> (repeat' split) <;> first | (exfalso; omega) | rfl)), trivial⟩, hS.F ht⟩) hS.2.2 dX3_valueOf_127
    · refine lv_tableIn (off := 127) (tgt := 128) hx hb dX3_valueOf_1 (by omega) (by omega) (by rw [sv_1]; rfl) (by decide) ?_
      refine lv_lload_n hx hb dX3_valueOf_128 rfl (lv_at hl 1 rfl) ?_
      refine lv_ldc2 hx hb hown (hts (.constantLong RX3 115 (9223372036854775807)) (by decide +kernel)) dX3_valueOf_129 ?_
      refine lv_land hx hb dX3_valueOf_132 ?_
      refine lv_topl (fun z_20 ez_20 => ?_)
      refine lv_ldc2 hx hb hown (hts (.constantLong RX3 117 (9218868437227405312)) (by decide +kernel)) dX3_valueOf_133 ?_
      refine W.lcmp hx hb dX3_valueOf_136 ?_
      refine lv_if_le (tgt := 146) hx hb dX3_valueOf_137 (by decide) (fun c_21 => ?_) (fun c_21 => ?_)
      · have c_21 := Int64.le_iff_toInt_le.mp ((lg_cmp_le z_20 9218868437227405312).mp c_21)
        refine lv_lload_n hx hb dX3_valueOf_146 rfl (lv_at hl 1 rfl) ?_
        exact W.lret (v := v0) hx hb hr (fun t ht hW => ⟨⟨v0, (), rfl, (by first | ((try simp only [k2139095040_] at c_21); simp only [rs_val, ← ez_20, sv_1, c_21, k2139095040_, ↓reduceIte, and_self, and_true, true_and, and_false, false_and, or_self, or_true, true_or, or_false, false_or, not_true_eq_false, not_false_eq_true, eq_self, Int.reduceLE, Int.reduceLT, Int.reduceEq]; done) | ((try simp only [k2139095040_] at c_21); simp only [rs_val, ← ez_20, sv_1, c_21, k2139095040_, ↓reduceIte, and_self, and_true, true_and, and_false, false_and, or_self, or_true, true_or, or_false, false_or, not_true_eq_false, not_false_eq_true, eq_self, Int.reduceLE, Int.reduceLT, Int.reduceEq] <;> (repeat' split) <;> first | with_reducible rfl | with_reducible assumption | (exfalso; omega) | rfl | trivial | assumption) | (simp only [rs_val, ← ez_20]; done) | (simp only [rs_val, ← ez_20] <;> (repeat' split) <;> first | (exfalso; omega) | rfl) | (simp only [rs_val, ez_20] <;> (repeat' split) <;> first | (exfalso; omega) | rfl | contradiction) | (subst ez_20; simp only [rs_val] <;> (repeat' split) <;> first | (exfalso; omega) | rfl)), trivial⟩, hS.F ht⟩) hS.2.2 dX3_valueOf_147
      · have c_21 := mt (fun h9 => (lg_cmp_le z_20 9218868437227405312).mpr (Int64.le_iff_toInt_le.mpr h9)) c_21
        refine lv_ldc2 hx hb hown (hts (.constantLong RX3 119 (9221120237041090560)) (by decide +kernel)) dX3_valueOf_140 ?_
        refine lv_goto (tgt := 147) hx hb dX3_valueOf_143 (by decide) ?_
        exact W.lret (v := 9221120237041090560) hx hb hr (fun t ht hW => ⟨⟨9221120237041090560, (), rfl, (by first | ((try simp only [k2139095040_] at c_21); simp only [rs_val, ← ez_20, sv_1, c_21, k2139095040_, ↓reduceIte, and_self, and_true, true_and, and_false, false_and, or_self, or_true, true_or, or_false, false_or, not_true_eq_false, not_false_eq_true, eq_self, Int.reduceLE, Int.reduceLT, Int.reduceEq]; done) | ((try simp only [k2139095040_] at c_21); simp only [rs_val, ← ez_20, sv_1, c_21, k2139095040_, ↓reduceIte, and_self, and_true, true_and, and_false, false_and, or_self, or_true, true_or, or_false, false_or, not_true_eq_false, not_false_eq_true, eq_self, Int.reduceLE, Int.reduceLT, Int.reduceEq] <;> (repeat' split) <;> first | with_reducible rfl | with_reducible assumption | (exfalso; omega) | rfl | trivial | assumption) | (simp only [rs_val, ← ez_20]; done) | (simp only [rs_val, ← ez_20] <;> (repeat' split) <;> first | (exfalso; omega) | rfl) | (simp only [rs_val, ez_20] <;> (repeat' split) <;> first | (exfalso; omega) | rfl | contradiction) | (subst ez_20; simp only [rs_val] <;> (repeat' split) <;> first | (exfalso; omega) | rfl)), trivial⟩, hS.F ht⟩) hS.2.2 dX3_valueOf_147
    · refine lv_tableIn (off := 147) (tgt := 148) hx hb dX3_valueOf_1 (by omega) (by omega) (by rw [sv_1]; rfl) (by decide) ?_
      refine lv_lload_n hx hb dX3_valueOf_148 rfl (lv_at hl 1 rfl) ?_
      refine lv_l2i hx hb dX3_valueOf_149 rfl ?_
      refine lv_topi (fun z_22 ez_22 => ?_)
      refine lv_i2l (v := Int32.toInt64 z_22) hx hb dX3_valueOf_150 rfl ?_
      have k_z_23 := Int32.toInt_toInt64 z_22
      exact W.lret (v := (Int32.toInt64 z_22)) hx hb hr (fun t ht hW => ⟨⟨(Int32.toInt64 z_22), (), rfl, (by first | (simp only [rs_val, ← ez_22, sv_1, k2139095040_, ↓reduceIte, and_self, and_true, true_and, and_false, false_and, or_self, or_true, true_or, or_false, false_or, not_true_eq_false, not_false_eq_true, eq_self, Int.reduceLE, Int.reduceLT, Int.reduceEq]; done) | (simp only [rs_val, ← ez_22, sv_1, k2139095040_, ↓reduceIte, and_self, and_true, true_and, and_false, false_and, or_self, or_true, true_or, or_false, false_or, not_true_eq_false, not_false_eq_true, eq_self, Int.reduceLE, Int.reduceLT, Int.reduceEq] <;> (repeat' split) <;> first | with_reducible rfl | with_reducible assumption | (exfalso; omega) | rfl | trivial | assumption) | (simp only [rs_val, ← ez_22]; done) | (simp only [rs_val, ← ez_22] <;> (repeat' split) <;> first | (exfalso; omega) | rfl) | (simp only [rs_val, ez_22] <;> (repeat' split) <;> first | (exfalso; omega) | rfl | contradiction) | (subst ez_22; simp only [rs_val] <;> (repeat' split) <;> first | (exfalso; omega) | rfl)), trivial⟩, hS.F ht⟩) hS.2.2 dX3_valueOf_151
    · refine lv_tableIn (off := 147) (tgt := 148) hx hb dX3_valueOf_1 (by omega) (by omega) (by rw [sv_1]; rfl) (by decide) ?_
      refine lv_lload_n hx hb dX3_valueOf_148 rfl (lv_at hl 1 rfl) ?_
      refine lv_l2i hx hb dX3_valueOf_149 rfl ?_
      refine lv_topi (fun z_24 ez_24 => ?_)
      refine lv_i2l (v := Int32.toInt64 z_24) hx hb dX3_valueOf_150 rfl ?_
      have k_z_25 := Int32.toInt_toInt64 z_24
      exact W.lret (v := (Int32.toInt64 z_24)) hx hb hr (fun t ht hW => ⟨⟨(Int32.toInt64 z_24), (), rfl, (by first | (simp only [rs_val, ← ez_24, sv_1, k2139095040_, ↓reduceIte, and_self, and_true, true_and, and_false, false_and, or_self, or_true, true_or, or_false, false_or, not_true_eq_false, not_false_eq_true, eq_self, Int.reduceLE, Int.reduceLT, Int.reduceEq]; done) | (simp only [rs_val, ← ez_24, sv_1, k2139095040_, ↓reduceIte, and_self, and_true, true_and, and_false, false_and, or_self, or_true, true_or, or_false, false_or, not_true_eq_false, not_false_eq_true, eq_self, Int.reduceLE, Int.reduceLT, Int.reduceEq] <;> (repeat' split) <;> first | with_reducible rfl | with_reducible assumption | (exfalso; omega) | rfl | trivial | assumption) | (simp only [rs_val, ← ez_24]; done) | (simp only [rs_val, ← ez_24] <;> (repeat' split) <;> first | (exfalso; omega) | rfl) | (simp only [rs_val, ez_24] <;> (repeat' split) <;> first | (exfalso; omega) | rfl | contradiction) | (subst ez_24; simp only [rs_val] <;> (repeat' split) <;> first | (exfalso; omega) | rfl)), trivial⟩, hS.F ht⟩) hS.2.2 dX3_valueOf_151
    · refine lv_tableIn (off := 147) (tgt := 148) hx hb dX3_valueOf_1 (by omega) (by omega) (by rw [sv_1]; rfl) (by decide) ?_
      refine lv_lload_n hx hb dX3_valueOf_148 rfl (lv_at hl 1 rfl) ?_
      refine lv_l2i hx hb dX3_valueOf_149 rfl ?_
      refine lv_topi (fun z_26 ez_26 => ?_)
      refine lv_i2l (v := Int32.toInt64 z_26) hx hb dX3_valueOf_150 rfl ?_
      have k_z_27 := Int32.toInt_toInt64 z_26
      exact W.lret (v := (Int32.toInt64 z_26)) hx hb hr (fun t ht hW => ⟨⟨(Int32.toInt64 z_26), (), rfl, (by first | (simp only [rs_val, ← ez_26, sv_1, k2139095040_, ↓reduceIte, and_self, and_true, true_and, and_false, false_and, or_self, or_true, true_or, or_false, false_or, not_true_eq_false, not_false_eq_true, eq_self, Int.reduceLE, Int.reduceLT, Int.reduceEq]; done) | (simp only [rs_val, ← ez_26, sv_1, k2139095040_, ↓reduceIte, and_self, and_true, true_and, and_false, false_and, or_self, or_true, true_or, or_false, false_or, not_true_eq_false, not_false_eq_true, eq_self, Int.reduceLE, Int.reduceLT, Int.reduceEq] <;> (repeat' split) <;> first | with_reducible rfl | with_reducible assumption | (exfalso; omega) | rfl | trivial | assumption) | (simp only [rs_val, ← ez_26]; done) | (simp only [rs_val, ← ez_26] <;> (repeat' split) <;> first | (exfalso; omega) | rfl) | (simp only [rs_val, ez_26] <;> (repeat' split) <;> first | (exfalso; omega) | rfl | contradiction) | (subst ez_26; simp only [rs_val] <;> (repeat' split) <;> first | (exfalso; omega) | rfl)), trivial⟩, hS.F ht⟩) hS.2.2 dX3_valueOf_151
    · refine lv_tableIn (off := 147) (tgt := 148) hx hb dX3_valueOf_1 (by omega) (by omega) (by rw [sv_1]; rfl) (by decide) ?_
      refine lv_lload_n hx hb dX3_valueOf_148 rfl (lv_at hl 1 rfl) ?_
      refine lv_l2i hx hb dX3_valueOf_149 rfl ?_
      refine lv_topi (fun z_28 ez_28 => ?_)
      refine lv_i2l (v := Int32.toInt64 z_28) hx hb dX3_valueOf_150 rfl ?_
      have k_z_29 := Int32.toInt_toInt64 z_28
      exact W.lret (v := (Int32.toInt64 z_28)) hx hb hr (fun t ht hW => ⟨⟨(Int32.toInt64 z_28), (), rfl, (by first | (simp only [rs_val, ← ez_28, sv_1, k2139095040_, ↓reduceIte, and_self, and_true, true_and, and_false, false_and, or_self, or_true, true_or, or_false, false_or, not_true_eq_false, not_false_eq_true, eq_self, Int.reduceLE, Int.reduceLT, Int.reduceEq]; done) | (simp only [rs_val, ← ez_28, sv_1, k2139095040_, ↓reduceIte, and_self, and_true, true_and, and_false, false_and, or_self, or_true, true_or, or_false, false_or, not_true_eq_false, not_false_eq_true, eq_self, Int.reduceLE, Int.reduceLT, Int.reduceEq] <;> (repeat' split) <;> first | with_reducible rfl | with_reducible assumption | (exfalso; omega) | rfl | trivial | assumption) | (simp only [rs_val, ← ez_28]; done) | (simp only [rs_val, ← ez_28] <;> (repeat' split) <;> first | (exfalso; omega) | rfl) | (simp only [rs_val, ez_28] <;> (repeat' split) <;> first | (exfalso; omega) | rfl | contradiction) | (subst ez_28; simp only [rs_val] <;> (repeat' split) <;> first | (exfalso; omega) | rfl)), trivial⟩, hS.F ht⟩) hS.2.2 dX3_valueOf_151
    · refine lv_tableIn (off := 105) (tgt := 106) hx hb dX3_valueOf_1 (by omega) (by omega) (by rw [sv_1]; rfl) (by decide) ?_
      refine lv_lload_n hx hb dX3_valueOf_106 rfl (lv_at hl 1 rfl) ?_
      exact W.lret (v := v0) hx hb hr (fun t ht hW => ⟨⟨v0, (), rfl, (by first | (simp only [rs_val, sv_1, k2139095040_, ↓reduceIte, and_self, and_true, true_and, and_false, false_and, or_self, or_true, true_or, or_false, false_or, not_true_eq_false, not_false_eq_true, eq_self, Int.reduceLE, Int.reduceLT, Int.reduceEq]; done) | (simp only [rs_val, sv_1, k2139095040_, ↓reduceIte, and_self, and_true, true_and, and_false, false_and, or_self, or_true, true_or, or_false, false_or, not_true_eq_false, not_false_eq_true, eq_self, Int.reduceLE, Int.reduceLT, Int.reduceEq] <;> (repeat' split) <;> first | with_reducible rfl | with_reducible assumption | (exfalso; omega) | rfl | trivial | assumption) | (simp only [rs_val]; done) | (simp only [rs_val] <;> (repeat' split) <;> first | (exfalso; omega) | rfl) | (simp only [rs_val] <;> (repeat' split) <;> first | (exfalso; omega) | rfl | contradiction)), trivial⟩, hS.F ht⟩) hS.2.2 dX3_valueOf_107
    · refine lv_tableIn (off := 147) (tgt := 148) hx hb dX3_valueOf_1 (by omega) (by omega) (by rw [sv_1]; rfl) (by decide) ?_
      refine lv_lload_n hx hb dX3_valueOf_148 rfl (lv_at hl 1 rfl) ?_
      refine lv_l2i hx hb dX3_valueOf_149 rfl ?_
      refine lv_topi (fun z_30 ez_30 => ?_)
      refine lv_i2l (v := Int32.toInt64 z_30) hx hb dX3_valueOf_150 rfl ?_
      have k_z_31 := Int32.toInt_toInt64 z_30
      exact W.lret (v := (Int32.toInt64 z_30)) hx hb hr (fun t ht hW => ⟨⟨(Int32.toInt64 z_30), (), rfl, (by first | (simp only [rs_val, ← ez_30, sv_1, k2139095040_, ↓reduceIte, and_self, and_true, true_and, and_false, false_and, or_self, or_true, true_or, or_false, false_or, not_true_eq_false, not_false_eq_true, eq_self, Int.reduceLE, Int.reduceLT, Int.reduceEq]; done) | (simp only [rs_val, ← ez_30, sv_1, k2139095040_, ↓reduceIte, and_self, and_true, true_and, and_false, false_and, or_self, or_true, true_or, or_false, false_or, not_true_eq_false, not_false_eq_true, eq_self, Int.reduceLE, Int.reduceLT, Int.reduceEq] <;> (repeat' split) <;> first | with_reducible rfl | with_reducible assumption | (exfalso; omega) | rfl | trivial | assumption) | (simp only [rs_val, ← ez_30]; done) | (simp only [rs_val, ← ez_30] <;> (repeat' split) <;> first | (exfalso; omega) | rfl) | (simp only [rs_val, ez_30] <;> (repeat' split) <;> first | (exfalso; omega) | rfl | contradiction) | (subst ez_30; simp only [rs_val] <;> (repeat' split) <;> first | (exfalso; omega) | rfl)), trivial⟩, hS.F ht⟩) hS.2.2 dX3_valueOf_151
    · refine lv_tableIn (off := 127) (tgt := 128) hx hb dX3_valueOf_1 (by omega) (by omega) (by rw [sv_1]; rfl) (by decide) ?_
      refine lv_lload_n hx hb dX3_valueOf_128 rfl (lv_at hl 1 rfl) ?_
      refine lv_ldc2 hx hb hown (hts (.constantLong RX3 115 (9223372036854775807)) (by decide +kernel)) dX3_valueOf_129 ?_
      refine lv_land hx hb dX3_valueOf_132 ?_
      refine lv_topl (fun z_32 ez_32 => ?_)
      refine lv_ldc2 hx hb hown (hts (.constantLong RX3 117 (9218868437227405312)) (by decide +kernel)) dX3_valueOf_133 ?_
      refine W.lcmp hx hb dX3_valueOf_136 ?_
      refine lv_if_le (tgt := 146) hx hb dX3_valueOf_137 (by decide) (fun c_33 => ?_) (fun c_33 => ?_)
      · have c_33 := Int64.le_iff_toInt_le.mp ((lg_cmp_le z_32 9218868437227405312).mp c_33)
        refine lv_lload_n hx hb dX3_valueOf_146 rfl (lv_at hl 1 rfl) ?_
        exact W.lret (v := v0) hx hb hr (fun t ht hW => ⟨⟨v0, (), rfl, (by first | ((try simp only [k2139095040_] at c_33); simp only [rs_val, ← ez_32, sv_1, c_33, k2139095040_, ↓reduceIte, and_self, and_true, true_and, and_false, false_and, or_self, or_true, true_or, or_false, false_or, not_true_eq_false, not_false_eq_true, eq_self, Int.reduceLE, Int.reduceLT, Int.reduceEq]; done) | ((try simp only [k2139095040_] at c_33); simp only [rs_val, ← ez_32, sv_1, c_33, k2139095040_, ↓reduceIte, and_self, and_true, true_and, and_false, false_and, or_self, or_true, true_or, or_false, false_or, not_true_eq_false, not_false_eq_true, eq_self, Int.reduceLE, Int.reduceLT, Int.reduceEq] <;> (repeat' split) <;> first | with_reducible rfl | with_reducible assumption | (exfalso; omega) | rfl | trivial | assumption) | (simp only [rs_val, ← ez_32]; done) | (simp only [rs_val, ← ez_32] <;> (repeat' split) <;> first | (exfalso; omega) | rfl) | (simp only [rs_val, ez_32] <;> (repeat' split) <;> first | (exfalso; omega) | rfl | contradiction) | (subst ez_32; simp only [rs_val] <;> (repeat' split) <;> first | (exfalso; omega) | rfl)), trivial⟩, hS.F ht⟩) hS.2.2 dX3_valueOf_147
      · have c_33 := mt (fun h9 => (lg_cmp_le z_32 9218868437227405312).mpr (Int64.le_iff_toInt_le.mpr h9)) c_33
        refine lv_ldc2 hx hb hown (hts (.constantLong RX3 119 (9221120237041090560)) (by decide +kernel)) dX3_valueOf_140 ?_
        refine lv_goto (tgt := 147) hx hb dX3_valueOf_143 (by decide) ?_
        exact W.lret (v := 9221120237041090560) hx hb hr (fun t ht hW => ⟨⟨9221120237041090560, (), rfl, (by first | ((try simp only [k2139095040_] at c_33); simp only [rs_val, ← ez_32, sv_1, c_33, k2139095040_, ↓reduceIte, and_self, and_true, true_and, and_false, false_and, or_self, or_true, true_or, or_false, false_or, not_true_eq_false, not_false_eq_true, eq_self, Int.reduceLE, Int.reduceLT, Int.reduceEq]; done) | ((try simp only [k2139095040_] at c_33); simp only [rs_val, ← ez_32, sv_1, c_33, k2139095040_, ↓reduceIte, and_self, and_true, true_and, and_false, false_and, or_self, or_true, true_or, or_false, false_or, not_true_eq_false, not_false_eq_true, eq_self, Int.reduceLE, Int.reduceLT, Int.reduceEq] <;> (repeat' split) <;> first | with_reducible rfl | with_reducible assumption | (exfalso; omega) | rfl | trivial | assumption) | (simp only [rs_val, ← ez_32]; done) | (simp only [rs_val, ← ez_32] <;> (repeat' split) <;> first | (exfalso; omega) | rfl) | (simp only [rs_val, ez_32] <;> (repeat' split) <;> first | (exfalso; omega) | rfl | contradiction) | (subst ez_32; simp only [rs_val] <;> (repeat' split) <;> first | (exfalso; omega) | rfl)), trivial⟩, hS.F ht⟩) hS.2.2 dX3_valueOf_147

