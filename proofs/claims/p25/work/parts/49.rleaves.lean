set_option maxRecDepth 20000 in
theorem in_q_X3_numberOf_X3 : ∀ w ∈ u_ws RX3 TX3 23, w ∈ wsX3_numberOf := by decide +kernel
set_option maxRecDepth 100000 in
set_option maxHeartbeats 4000000 in
theorem q_X3_numberOf (l : Launch) (dC : Nat → ClassId) (dI : Nat → Nat → Nat) (TT : Nat × Nat × Nat) (sz : Nat) (kI kJ kZ : ClassId) (K : Nat → Nat) (L : List Nat) (f : Nat → va_E) (hPI : PR kI kJ kZ K L f) (g0 : Nat) (hg0 : isr K L 10 g0) (o0 : Int32) : Met l yX3_numberOf wsX3_numberOf ({ frames := 0, cells := 0, slots := 0, locals := 0 } : Room) (va_Pc [.ref g0, .int o0] (pr dC dI (va_pl L f) [] [(kI, .int), (kJ, .long), (kZ, .boolean)] sz TT)) (va_Qi (fun (r : Int32) (u : Unit) => r.toInt = -4 ∨ (0 ≤ r.toInt ∧ r.toInt < 24)) (fun _ _ => True) (va_A [] sz)) 0 0 (va_A [] sz) := by
  refine Met.ofW (cc := cX3_numberOf) (maxL := 3) (ret := (some .int)) (by decide) rfl ?_
  intro p e s m args below meth c s₁ B hml hv
  obtain ⟨rfl, hsz, hP, hK, hD0, hst⟩ := hv
  have hx := B.exec
  have hb := B.bytes
  have hr := B.returns
  have hts := atoms_spec (ws := wsX3_numberOf) B.pre
  have hown : s.vm.findClass RX3 = some m.cls := findClass_of_methodNamed B.named
  have hlocks := B.notSynchronized
  have iX3_ := in_q_X3_numberOf_X3
  subst hsz
  have hD := hD0.self (sz := s.heap.size)
  generalize hAe : va_A [] s.heap.size = A at hD hst ⊢
  have hA : ∀ q : Nat, s.heap.size ≤ q → A q := fun q h => by rw [← hAe]; exact Or.inr h
  have hS : va_S A s.heap s.heap [] := va_S.rf
  have hl := lv_entry ([.ref g0, .int o0]) (n := 3) (Nat.le_of_ble_eq_true rfl)
  rw [lg_entry_eq]
  generalize (lg_sl ([.ref g0, .int o0]) ++ List.replicate (3 - (lg_sl ([.ref g0, .int o0])).length) Slot.unset).toArray = ls at hl ⊢
  have hl : lv_has ls 3 [(0, .ref g0), (1, .int o0)] := hl
  have km4_ : Int32.toInt (-4) = -4 := by decide
  have k0_ : Int32.toInt 0 = 0 := by decide
  refine W_nameQ (fun Q0 eQ => ?_)
  refine lv_iconst (v := 0) hx hb dX3_numberOf_0 (by decide) ?_
  refine lv_istore_n (lv' := [(2, .int 0), (0, .ref g0), (1, .int o0)]) hx hb dX3_numberOf_1 rfl hl (by decide) rfl (fun ls hl => ?_)
  have loop_2 : ∀ (n : Nat) (i2 : Int32)   (H : Heap) (locs : List Loc) (ls : Array Slot), (0 ≤ i2.toInt ∧ i2.toInt ≤ 24) → (24 - i2.toInt).toNat < n → va_P (dC, dI) vwCl (va_pl L f) H → va_S A s.heap H locs → lv_has ls 3 [(2, .int i2), (0, .ref g0), (1, .int o0)] → W p l e (headSpec wsX3_numberOf ({ frames := 0, cells := 0, slots := 0, locals := 0 } : Room)).room s m (([.ref g0, .int o0] : List Value).toArray) below meth c H locs 0 0 Q0 (F0 m 2 ls []) := by
    intro n
    induction n with
    | zero => intro i2 H locs ls  _ h9; exact absurd h9 (Nat.not_lt_zero _)
    | succ n ih_2 =>
      intro i2 H locs ls  hI hM hP hS hl
      refine lv_iload_n hx hb dX3_numberOf_2 rfl (lv_at hl 0 rfl) ?_
      refine lv_aload_n hx hb dX3_numberOf_3 rfl (lv_at hl 1 rfl) ?_
      (refine hPI.a10E hg0 ?_; intro s1_1 s2_1 s3_1 s4_1 s5_1 s6_1 s7_1 pa_1 lm_1 s8_1 s9_1 s10_1 fm_1 s11_1 nm_1 s12_1 s13_1 s14_1 rm_1 s15_1 s16_1 s17_1 s18_1 e_1 fs1_1 fs2_1 fs3_1 fs4_1 fs5_1 fs6_1 fs7_1 flm_1 fs8_1 fs9_1 fs10_1 ffm_1 fs11_1 fnm_1 fs12_1 fs13_1 fs14_1 frm_1 fs15_1 fs16_1 fs17_1 fs18_1)
      obtain ⟨k_1, hk_1⟩ := va_plg hg0.1 e_1
      refine va_get (D := (dC, dI)) (ci := 3) (v := .int fm_1) (C := RX3) (T := TX3) (N := 23) hx hb hts iX3_ hown hK hP k_1 hk_1 rfl 12 (by decide) (hts (.fieldLink RX3 167 "FieldLeavesModel" "foundMany" "I") (by decide +kernel)) (fun _ h9 => h9) rfl dX3_numberOf_4 ?_
      refine lv_icmp_ge (tgt := 28) hx hb dX3_numberOf_7 (by decide) (fun c_2 => ?_) (fun c_2 => ?_)
      · have c_2 := Int32.le_iff_toInt_le.mp c_2
        refine lv_bipush (v := (-4)) hx hb dX3_numberOf_28 (by decide) ?_
        subst eQ
        exact W.iret (v := (-4)) hx hb hr (fun t ht hW => ⟨⟨(-4), (), rfl, (by omega), trivial⟩, hS.F ht⟩) hS.2.2 dX3_numberOf_30
      · have c_2 := mt Int32.le_iff_toInt_le.mpr c_2
        refine lv_aload_n hx hb dX3_numberOf_10 rfl (lv_at hl 1 rfl) ?_
        obtain ⟨k_3, hk_3⟩ := va_plg hg0.1 e_1
        refine va_get (D := (dC, dI)) (ci := 3) (v := .ref s11_1) (C := RX3) (T := TX3) (N := 23) hx hb hts iX3_ hown hK hP k_3 hk_3 rfl 13 (by decide) (hts (.fieldLink RX3 44 "FieldLeavesModel" "found" "[I") (by decide +kernel)) (fun _ h9 => h9) rfl dX3_numberOf_11 ?_
        refine lv_iload_n hx hb dX3_numberOf_14 rfl (lv_at hl 0 rfl) ?_
        obtain ⟨g_4, e_4, fg_4⟩ := hPI.a21 fs11_1
        obtain ⟨k_4, hk_4⟩ := va_plg fs11_1.1 e_4
        have h_4 : vp_in i2 25 := (vp_in_iff.mpr (by constructor <;> omega))
        refine va_iald hx hb hK hP k_4 0 hk_4 rfl h_4 dX3_numberOf_15 ?_
        refine lv_topi (fun z_4 ez_4 => ?_)
        have fz_4 := fg_4 _ (vp_lt h_4)
        rw [← ez_4] at fz_4
        refine lv_iload_n hx hb dX3_numberOf_16 rfl (lv_at hl 2 rfl) ?_
        refine lv_icmp_ne (tgt := 22) hx hb dX3_numberOf_17 (by decide) (fun c_5 => ?_) (fun c_5 => ?_)
        · have c_5 := mt Int32.toInt_inj.mp c_5
          obtain ⟨i_6, ei_6⟩ : ∃ y : Int32, y = i2 + 1 := ⟨_, rfl⟩
          refine lv_iinc (v := i_6) (lv' := [(2, .int i_6), (0, .ref g0), (1, .int o0)]) hx hb dX3_numberOf_22 hl (k := 0) rfl (by rw [ei_6]; rfl) (by decide) rfl (fun ls hl => ?_)
          have ki_6 := inc_toInt ei_6 (by omega)
          refine lv_goto (tgt := 2) hx hb dX3_numberOf_25 (by decide) ?_
          exact ih_2 i_6 _ _ _  (by omega) (by omega) hP hS (lv_sub hl [0, 1, 2] rfl)
        · have c_5 := congrArg Int32.toInt c_5
          refine lv_iload_n hx hb dX3_numberOf_20 rfl (lv_at hl 0 rfl) ?_
          subst eQ
          exact W.iret (v := i2) hx hb hr (fun t ht hW => ⟨⟨i2, (), rfl, (by omega), trivial⟩, hS.F ht⟩) hS.2.2 dX3_numberOf_21
  exact loop_2 25 0 _ _ _  (by omega) (by omega) hP hS hl
