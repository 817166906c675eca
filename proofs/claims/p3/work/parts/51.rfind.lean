set_option maxRecDepth 20000 in
theorem in_q_X3_find_X3 : ∀ w ∈ u_ws RX3 TX3 23, w ∈ wsX3_find := by decide +kernel
set_option maxRecDepth 100000 in
set_option maxHeartbeats 4000000 in
theorem q_X3_find (l : Launch) (dC : Nat → ClassId) (dI : Nat → Nat → Nat) (TT : Nat × Nat × Nat) (sz : Nat) (kI kJ kZ : ClassId) (K : Nat → Nat) (L : List Nat) (f : Nat → va_E) (hPI : PR kI kJ kZ K L f) (g0 : Nat) (hg0 : isr K L 10 g0) (o0 : Int32) (ho0 : 0 ≤ o0.toInt ∧ o0.toInt < 6400) (hU : UN K L) (hXL : XL kI kJ K L f 23 24) : Met l yX3_find wsX3_find ({ frames := 2, cells := 0, slots := 0, locals := 50 } : Room) (va_Pc [.ref g0, .int o0] (pr dC dI (va_pl L f) (va_pl L f) [(kI, .int), (kJ, .long), (kZ, .boolean)] sz TT)) (va_Qi (fun (r : Int32) (u : Unit) => r01 r) (fun (_ : Unit) t => ∃ f2 : Nat → va_E, PR kI kJ kZ K L f2 ∧ (FR (sK [10, 21, 22, 23, 24]) K L f f2 ∧ XL kI kJ K L f2 23 24) ∧ va_P (dC, dI) vwCl (va_pl L f2) t.heap ∧ va_D (va_A (va_pl L f) sz) (va_pl L f2)) (va_A (va_pl L f) sz)) 0 0 (va_A (va_pl L f) sz) := by
  refine Met.ofW (cc := cX3_find) (maxL := 6) (ret := (some .boolean)) (by decide) rfl ?_
  intro p e s m args below meth c s₁ B hml hv
  obtain ⟨rfl, hsz, hP, hK, hD0, hst⟩ := hv
  have hx := B.exec
  have hb := B.bytes
  have hr := B.returns
  have hts := atoms_spec (ws := wsX3_find) B.pre
  have hown : s.vm.findClass RX3 = some m.cls := findClass_of_methodNamed B.named
  have hlocks := B.notSynchronized
  have iX3_ := in_q_X3_find_X3
  subst hsz
  have hD := hD0.self (sz := s.heap.size)
  generalize hAe : va_A (va_pl L f) s.heap.size = A at hD hst ⊢
  have hA : ∀ q : Nat, s.heap.size ≤ q → A q := fun q h => by rw [← hAe]; exact Or.inr h
  have hS : va_S A s.heap s.heap [] := va_S.rf
  have hl := lv_entry ([.ref g0, .int o0]) (n := 6) (Nat.le_of_ble_eq_true rfl)
  rw [lg_entry_eq]
  generalize (lg_sl ([.ref g0, .int o0]) ++ List.replicate (6 - (lg_sl ([.ref g0, .int o0])).length) Slot.unset).toArray = ls at hl ⊢
  have hl : lv_has ls 6 [(0, .ref g0), (1, .int o0)] := hl
  have km4_ : Int32.toInt (-4) = -4 := by decide
  have km1_ : Int32.toInt (-1) = -1 := by decide
  have k0_ : Int32.toInt 0 = 0 := by decide
  have k1_ : Int32.toInt 1 = 1 := by decide
  have k8_ : Int32.toInt 8 = 8 := by decide
  have k16_ : Int32.toInt 16 = 16 := by decide
  have k24_ : Int32.toInt 24 = 24 := by decide
  have hfr : FR (sK [10, 21, 22, 23, 24]) K L f f := FR.rf
  refine W_nameQ (fun Q0 eQ => ?_)
  refine lv_aload_n hx hb dX3_find_0 rfl (lv_at hl 0 rfl) ?_
  refine lv_iconst (v := 1) hx hb dX3_find_1 (by decide) ?_
  obtain ⟨s1_1, s2_1, s3_1, s4_1, s5_1, s6_1, s7_1, pa_1, lm_1, s8_1, s9_1, s10_1, fm_1, s11_1, nm_1, s12_1, s13_1, s14_1, rm_1, s15_1, s16_1, s17_1, s18_1, e_1, fs1_1, fs2_1, fs3_1, fs4_1, fs5_1, fs6_1, fs7_1, flm_1, fs8_1, fs9_1, fs10_1, ffm_1, fs11_1, fnm_1, fs12_1, fs13_1, fs14_1, frm_1, fs15_1, fs16_1, fs17_1, fs18_1⟩ := hPI.a10 hg0
  obtain ⟨k_1, hk_1⟩ := va_plg hg0.1 e_1
  have hD9 := hD
  have rg_2 : 0 ≤ Int32.toInt 1 ∧ Int32.toInt 1 ≤ 24 := by constructor <;> omega
  refine va_put (D := (dC, dI)) (ci := 3) (v := .int 1) (ty := .int) (C := RX3) (T := TX3) (N := 23) hx hb hts iX3_ tyX3 tyX3_ok nmX3 hown hK hP hD hS k_1 hk_1 rfl 12 (by decide) (hts (.fieldLink RX3 167 "FieldLeavesModel" "foundMany" "I") (by decide +kernel)) (fun _ h9 => h9) rfl (by decide +kernel) rfl rfl (Nat.le_of_ble_eq_true rfl) dX3_find_2 (fun H locs hP hD hS => ?_)
  have hP : va_P (dC, dI) vwCl (va_pl L (va_up f g0 (.inr (3, [.ref s1_1, .ref s2_1, .ref s3_1, .ref s4_1, .ref s5_1, .ref s6_1, .ref s7_1, .int pa_1, .int lm_1, .ref s8_1, .ref s9_1, .ref s10_1, .int 1, .ref s11_1, .int nm_1, .ref s12_1, .ref s13_1, .ref s14_1, .int rm_1, .ref s15_1, .ref s16_1, .ref s17_1, .ref s18_1])))) H := by rw [← va_pls hD9 hg0.1 hk_1 _]; exact hP
  have hD : va_D A (va_pl L (va_up f g0 (.inr (3, [.ref s1_1, .ref s2_1, .ref s3_1, .ref s4_1, .ref s5_1, .ref s6_1, .ref s7_1, .int pa_1, .int lm_1, .ref s8_1, .ref s9_1, .ref s10_1, .int 1, .ref s11_1, .int nm_1, .ref s12_1, .ref s13_1, .ref s14_1, .int rm_1, .ref s15_1, .ref s16_1, .ref s17_1, .ref s18_1])))) := by rw [← va_pls hD9 hg0.1 hk_1 _]; exact hD
  have hPI := hPI.put (e := .inr (3, [.ref s1_1, .ref s2_1, .ref s3_1, .ref s4_1, .ref s5_1, .ref s6_1, .ref s7_1, .int pa_1, .int lm_1, .ref s8_1, .ref s9_1, .ref s10_1, .int 1, .ref s11_1, .int nm_1, .ref s12_1, .ref s13_1, .ref s14_1, .int rm_1, .ref s15_1, .ref s16_1, .ref s17_1, .ref s18_1])) hg0 ⟨s1_1, s2_1, s3_1, s4_1, s5_1, s6_1, s7_1, pa_1, lm_1, s8_1, s9_1, s10_1, 1, s11_1, nm_1, s12_1, s13_1, s14_1, rm_1, s15_1, s16_1, s17_1, s18_1, rfl, fs1_1, fs2_1, fs3_1, fs4_1, fs5_1, fs6_1, fs7_1, flm_1, fs8_1, fs9_1, fs10_1, rg_2, fs11_1, fnm_1, fs12_1, fs13_1, fs14_1, frm_1, fs15_1, fs16_1, fs17_1, fs18_1⟩
  have es_f_3 : va_up f g0 (.inr (3, [.ref s1_1, .ref s2_1, .ref s3_1, .ref s4_1, .ref s5_1, .ref s6_1, .ref s7_1, .int pa_1, .int lm_1, .ref s8_1, .ref s9_1, .ref s10_1, .int 1, .ref s11_1, .int nm_1, .ref s12_1, .ref s13_1, .ref s14_1, .int rm_1, .ref s15_1, .ref s16_1, .ref s17_1, .ref s18_1])) g0 = .inr (3, [.ref s1_1, .ref s2_1, .ref s3_1, .ref s4_1, .ref s5_1, .ref s6_1, .ref s7_1, .int pa_1, .int lm_1, .ref s8_1, .ref s9_1, .ref s10_1, .int 1, .ref s11_1, .int nm_1, .ref s12_1, .ref s13_1, .ref s14_1, .int rm_1, .ref s15_1, .ref s16_1, .ref s17_1, .ref s18_1]) := va_up_self _ _ _
  have hfr := fr_up (S := (sK [10, 21, 22, 23, 24])) (e := .inr (3, [.ref s1_1, .ref s2_1, .ref s3_1, .ref s4_1, .ref s5_1, .ref s6_1, .ref s7_1, .int pa_1, .int lm_1, .ref s8_1, .ref s9_1, .ref s10_1, .int 1, .ref s11_1, .int nm_1, .ref s12_1, .ref s13_1, .ref s14_1, .int rm_1, .ref s15_1, .ref s16_1, .ref s17_1, .ref s18_1])) hfr hg0 (by decide)
  have hXL := XL.up (e := .inr (3, [.ref s1_1, .ref s2_1, .ref s3_1, .ref s4_1, .ref s5_1, .ref s6_1, .ref s7_1, .int pa_1, .int lm_1, .ref s8_1, .ref s9_1, .ref s10_1, .int 1, .ref s11_1, .int nm_1, .ref s12_1, .ref s13_1, .ref s14_1, .int rm_1, .ref s15_1, .ref s16_1, .ref s17_1, .ref s18_1])) hXL hg0 (by decide) (by decide)
  generalize va_up f g0 (.inr (3, [.ref s1_1, .ref s2_1, .ref s3_1, .ref s4_1, .ref s5_1, .ref s6_1, .ref s7_1, .int pa_1, .int lm_1, .ref s8_1, .ref s9_1, .ref s10_1, .int 1, .ref s11_1, .int nm_1, .ref s12_1, .ref s13_1, .ref s14_1, .int rm_1, .ref s15_1, .ref s16_1, .ref s17_1, .ref s18_1])) = f_3 at hP hD hPI es_f_3  hfr hXL
  refine lv_aload_n hx hb dX3_find_5 rfl (lv_at hl 0 rfl) ?_
  obtain ⟨k_4, hk_4⟩ := va_plg hg0.1 es_f_3
  refine va_get (D := (dC, dI)) (ci := 3) (v := .ref s11_1) (C := RX3) (T := TX3) (N := 23) hx hb hts iX3_ hown hK hP k_4 hk_4 rfl 13 (by decide) (hts (.fieldLink RX3 44 "FieldLeavesModel" "found" "[I") (by decide +kernel)) (fun _ h9 => h9) rfl dX3_find_6 ?_
  refine lv_iconst (v := 0) hx hb dX3_find_9 (by decide) ?_
  refine lv_iload_n hx hb dX3_find_10 rfl (lv_at hl 1 rfl) ?_
  obtain ⟨g_5, e_5, fg_5⟩ := hPI.a21 fs11_1
  obtain ⟨k_5, hk_5⟩ := va_plg fs11_1.1 e_5
  have h_5 : vp_in 0 25 := (vp_in_iff.mpr (by decide))
  have fw_5 := updS (P := fun v => 0 ≤ v.toInt ∧ v.toInt < 6400) (k := Int32.toNatClampNeg 0) (v := o0) fg_5 (by omega)
  have hD9 := hD
  refine va_iast hx hb hK hP hD hS k_5 0 hk_5 rfl h_5 dX3_find_11 (fun H locs hP hD hS => ?_)
  have hP : va_P (dC, dI) vwCl (va_pl L (va_up f_3 s11_1 (.inl (kI, 25, .inl (upd g_5 (Int32.toNatClampNeg 0) o0))))) H := by rw [← va_pls hD9 fs11_1.1 hk_5 _]; exact hP
  have hD : va_D A (va_pl L (va_up f_3 s11_1 (.inl (kI, 25, .inl (upd g_5 (Int32.toNatClampNeg 0) o0))))) := by rw [← va_pls hD9 fs11_1.1 hk_5 _]; exact hD
  have hPI := hPI.put (e := .inl (kI, 25, .inl (upd g_5 (Int32.toNatClampNeg 0) o0))) fs11_1 ⟨_, rfl, fw_5⟩
  have es_f_6 : va_up f_3 s11_1 (.inl (kI, 25, .inl (upd g_5 (Int32.toNatClampNeg 0) o0))) s11_1 = .inl (kI, 25, .inl (upd g_5 (Int32.toNatClampNeg 0) o0)) := va_up_self _ _ _
  have eq_7 := (va_up_ne f_3 (.inl (kI, 25, .inl (upd g_5 (Int32.toNatClampNeg 0) o0))) (isr_ne hg0 fs11_1 (by decide))).trans es_f_3
  have hfr := fr_up (S := (sK [10, 21, 22, 23, 24])) (e := .inl (kI, 25, .inl (upd g_5 (Int32.toNatClampNeg 0) o0))) hfr fs11_1 (by decide)
  have hXL := XL.up (e := .inl (kI, 25, .inl (upd g_5 (Int32.toNatClampNeg 0) o0))) hXL fs11_1 (by decide) (by decide)
  generalize va_up f_3 s11_1 (.inl (kI, 25, .inl (upd g_5 (Int32.toNatClampNeg 0) o0))) = f_6 at hP hD hPI es_f_6 eq_7 hfr hXL
  refine lv_aload_n hx hb dX3_find_12 rfl (lv_at hl 0 rfl) ?_
  refine lv_iconst (v := 0) hx hb dX3_find_13 (by decide) ?_
  obtain ⟨k_8, hk_8⟩ := va_plg hg0.1 eq_7
  have hD9 := hD
  have rg_9 : 0 ≤ Int32.toInt 0 ∧ Int32.toInt 0 ≤ 300 := by constructor <;> omega
  refine va_put (D := (dC, dI)) (ci := 3) (v := .int 0) (ty := .int) (C := RX3) (T := TX3) (N := 23) hx hb hts iX3_ tyX3 tyX3_ok nmX3 hown hK hP hD hS k_8 hk_8 rfl 14 (by decide) (hts (.fieldLink RX3 160 "FieldLeavesModel" "newMany" "I") (by decide +kernel)) (fun _ h9 => h9) rfl (by decide +kernel) rfl rfl (Nat.le_of_ble_eq_true rfl) dX3_find_14 (fun H locs hP hD hS => ?_)
  have hP : va_P (dC, dI) vwCl (va_pl L (va_up f_6 g0 (.inr (3, [.ref s1_1, .ref s2_1, .ref s3_1, .ref s4_1, .ref s5_1, .ref s6_1, .ref s7_1, .int pa_1, .int lm_1, .ref s8_1, .ref s9_1, .ref s10_1, .int 1, .ref s11_1, .int 0, .ref s12_1, .ref s13_1, .ref s14_1, .int rm_1, .ref s15_1, .ref s16_1, .ref s17_1, .ref s18_1])))) H := by rw [← va_pls hD9 hg0.1 hk_8 _]; exact hP
  have hD : va_D A (va_pl L (va_up f_6 g0 (.inr (3, [.ref s1_1, .ref s2_1, .ref s3_1, .ref s4_1, .ref s5_1, .ref s6_1, .ref s7_1, .int pa_1, .int lm_1, .ref s8_1, .ref s9_1, .ref s10_1, .int 1, .ref s11_1, .int 0, .ref s12_1, .ref s13_1, .ref s14_1, .int rm_1, .ref s15_1, .ref s16_1, .ref s17_1, .ref s18_1])))) := by rw [← va_pls hD9 hg0.1 hk_8 _]; exact hD
  have hPI := hPI.put (e := .inr (3, [.ref s1_1, .ref s2_1, .ref s3_1, .ref s4_1, .ref s5_1, .ref s6_1, .ref s7_1, .int pa_1, .int lm_1, .ref s8_1, .ref s9_1, .ref s10_1, .int 1, .ref s11_1, .int 0, .ref s12_1, .ref s13_1, .ref s14_1, .int rm_1, .ref s15_1, .ref s16_1, .ref s17_1, .ref s18_1])) hg0 ⟨s1_1, s2_1, s3_1, s4_1, s5_1, s6_1, s7_1, pa_1, lm_1, s8_1, s9_1, s10_1, 1, s11_1, 0, s12_1, s13_1, s14_1, rm_1, s15_1, s16_1, s17_1, s18_1, rfl, fs1_1, fs2_1, fs3_1, fs4_1, fs5_1, fs6_1, fs7_1, flm_1, fs8_1, fs9_1, fs10_1, rg_2, fs11_1, rg_9, fs12_1, fs13_1, fs14_1, frm_1, fs15_1, fs16_1, fs17_1, fs18_1⟩
  have es_f_10 : va_up f_6 g0 (.inr (3, [.ref s1_1, .ref s2_1, .ref s3_1, .ref s4_1, .ref s5_1, .ref s6_1, .ref s7_1, .int pa_1, .int lm_1, .ref s8_1, .ref s9_1, .ref s10_1, .int 1, .ref s11_1, .int 0, .ref s12_1, .ref s13_1, .ref s14_1, .int rm_1, .ref s15_1, .ref s16_1, .ref s17_1, .ref s18_1])) g0 = .inr (3, [.ref s1_1, .ref s2_1, .ref s3_1, .ref s4_1, .ref s5_1, .ref s6_1, .ref s7_1, .int pa_1, .int lm_1, .ref s8_1, .ref s9_1, .ref s10_1, .int 1, .ref s11_1, .int 0, .ref s12_1, .ref s13_1, .ref s14_1, .int rm_1, .ref s15_1, .ref s16_1, .ref s17_1, .ref s18_1]) := va_up_self _ _ _
  have eq_11 := (va_up_ne f_6 (.inr (3, [.ref s1_1, .ref s2_1, .ref s3_1, .ref s4_1, .ref s5_1, .ref s6_1, .ref s7_1, .int pa_1, .int lm_1, .ref s8_1, .ref s9_1, .ref s10_1, .int 1, .ref s11_1, .int 0, .ref s12_1, .ref s13_1, .ref s14_1, .int rm_1, .ref s15_1, .ref s16_1, .ref s17_1, .ref s18_1])) (isr_ne fs11_1 hg0 (by decide))).trans es_f_6
  have hfr := fr_up (S := (sK [10, 21, 22, 23, 24])) (e := .inr (3, [.ref s1_1, .ref s2_1, .ref s3_1, .ref s4_1, .ref s5_1, .ref s6_1, .ref s7_1, .int pa_1, .int lm_1, .ref s8_1, .ref s9_1, .ref s10_1, .int 1, .ref s11_1, .int 0, .ref s12_1, .ref s13_1, .ref s14_1, .int rm_1, .ref s15_1, .ref s16_1, .ref s17_1, .ref s18_1])) hfr hg0 (by decide)
  have hXL := XL.up (e := .inr (3, [.ref s1_1, .ref s2_1, .ref s3_1, .ref s4_1, .ref s5_1, .ref s6_1, .ref s7_1, .int pa_1, .int lm_1, .ref s8_1, .ref s9_1, .ref s10_1, .int 1, .ref s11_1, .int 0, .ref s12_1, .ref s13_1, .ref s14_1, .int rm_1, .ref s15_1, .ref s16_1, .ref s17_1, .ref s18_1])) hXL hg0 (by decide) (by decide)
  generalize va_up f_6 g0 (.inr (3, [.ref s1_1, .ref s2_1, .ref s3_1, .ref s4_1, .ref s5_1, .ref s6_1, .ref s7_1, .int pa_1, .int lm_1, .ref s8_1, .ref s9_1, .ref s10_1, .int 1, .ref s11_1, .int 0, .ref s12_1, .ref s13_1, .ref s14_1, .int rm_1, .ref s15_1, .ref s16_1, .ref s17_1, .ref s18_1])) = f_10 at hP hD hPI es_f_10 eq_11 hfr hXL
  refine lv_aload_n hx hb dX3_find_17 rfl (lv_at hl 0 rfl) ?_
  refine lv_iconst (v := 1) hx hb dX3_find_18 (by decide) ?_
  obtain ⟨k_12, hk_12⟩ := va_plg hg0.1 es_f_10
  have hD9 := hD
  refine va_put (D := (dC, dI)) (ci := 3) (v := .int 1) (ty := .boolean) (C := RX3) (T := TX3) (N := 23) hx hb hts iX3_ tyX3 tyX3_ok nmX3 hown hK hP hD hS k_12 hk_12 rfl 18 (by decide) (hts (.fieldLink RX3 163 "FieldLeavesModel" "isRoom" "Z") (by decide +kernel)) (fun _ h9 => h9) rfl (by decide +kernel) rfl rfl (Nat.le_of_ble_eq_true rfl) dX3_find_19 (fun H locs hP hD hS => ?_)
  have hP : va_P (dC, dI) vwCl (va_pl L (va_up f_10 g0 (.inr (3, [.ref s1_1, .ref s2_1, .ref s3_1, .ref s4_1, .ref s5_1, .ref s6_1, .ref s7_1, .int pa_1, .int lm_1, .ref s8_1, .ref s9_1, .ref s10_1, .int 1, .ref s11_1, .int 0, .ref s12_1, .ref s13_1, .ref s14_1, .int 1, .ref s15_1, .ref s16_1, .ref s17_1, .ref s18_1])))) H := by rw [← va_pls hD9 hg0.1 hk_12 _]; exact hP
  have hD : va_D A (va_pl L (va_up f_10 g0 (.inr (3, [.ref s1_1, .ref s2_1, .ref s3_1, .ref s4_1, .ref s5_1, .ref s6_1, .ref s7_1, .int pa_1, .int lm_1, .ref s8_1, .ref s9_1, .ref s10_1, .int 1, .ref s11_1, .int 0, .ref s12_1, .ref s13_1, .ref s14_1, .int 1, .ref s15_1, .ref s16_1, .ref s17_1, .ref s18_1])))) := by rw [← va_pls hD9 hg0.1 hk_12 _]; exact hD
  have hPI := hPI.put (e := .inr (3, [.ref s1_1, .ref s2_1, .ref s3_1, .ref s4_1, .ref s5_1, .ref s6_1, .ref s7_1, .int pa_1, .int lm_1, .ref s8_1, .ref s9_1, .ref s10_1, .int 1, .ref s11_1, .int 0, .ref s12_1, .ref s13_1, .ref s14_1, .int 1, .ref s15_1, .ref s16_1, .ref s17_1, .ref s18_1])) hg0 ⟨s1_1, s2_1, s3_1, s4_1, s5_1, s6_1, s7_1, pa_1, lm_1, s8_1, s9_1, s10_1, 1, s11_1, 0, s12_1, s13_1, s14_1, 1, s15_1, s16_1, s17_1, s18_1, rfl, fs1_1, fs2_1, fs3_1, fs4_1, fs5_1, fs6_1, fs7_1, flm_1, fs8_1, fs9_1, fs10_1, rg_2, fs11_1, rg_9, fs12_1, fs13_1, fs14_1, (Or.inl rfl), fs15_1, fs16_1, fs17_1, fs18_1⟩
  have es_f_13 : va_up f_10 g0 (.inr (3, [.ref s1_1, .ref s2_1, .ref s3_1, .ref s4_1, .ref s5_1, .ref s6_1, .ref s7_1, .int pa_1, .int lm_1, .ref s8_1, .ref s9_1, .ref s10_1, .int 1, .ref s11_1, .int 0, .ref s12_1, .ref s13_1, .ref s14_1, .int 1, .ref s15_1, .ref s16_1, .ref s17_1, .ref s18_1])) g0 = .inr (3, [.ref s1_1, .ref s2_1, .ref s3_1, .ref s4_1, .ref s5_1, .ref s6_1, .ref s7_1, .int pa_1, .int lm_1, .ref s8_1, .ref s9_1, .ref s10_1, .int 1, .ref s11_1, .int 0, .ref s12_1, .ref s13_1, .ref s14_1, .int 1, .ref s15_1, .ref s16_1, .ref s17_1, .ref s18_1]) := va_up_self _ _ _
  have eq_14 := (va_up_ne f_10 (.inr (3, [.ref s1_1, .ref s2_1, .ref s3_1, .ref s4_1, .ref s5_1, .ref s6_1, .ref s7_1, .int pa_1, .int lm_1, .ref s8_1, .ref s9_1, .ref s10_1, .int 1, .ref s11_1, .int 0, .ref s12_1, .ref s13_1, .ref s14_1, .int 1, .ref s15_1, .ref s16_1, .ref s17_1, .ref s18_1])) (isr_ne fs11_1 hg0 (by decide))).trans eq_11
  have hfr := fr_up (S := (sK [10, 21, 22, 23, 24])) (e := .inr (3, [.ref s1_1, .ref s2_1, .ref s3_1, .ref s4_1, .ref s5_1, .ref s6_1, .ref s7_1, .int pa_1, .int lm_1, .ref s8_1, .ref s9_1, .ref s10_1, .int 1, .ref s11_1, .int 0, .ref s12_1, .ref s13_1, .ref s14_1, .int 1, .ref s15_1, .ref s16_1, .ref s17_1, .ref s18_1])) hfr hg0 (by decide)
  have hXL := XL.up (e := .inr (3, [.ref s1_1, .ref s2_1, .ref s3_1, .ref s4_1, .ref s5_1, .ref s6_1, .ref s7_1, .int pa_1, .int lm_1, .ref s8_1, .ref s9_1, .ref s10_1, .int 1, .ref s11_1, .int 0, .ref s12_1, .ref s13_1, .ref s14_1, .int 1, .ref s15_1, .ref s16_1, .ref s17_1, .ref s18_1])) hXL hg0 (by decide) (by decide)
  generalize va_up f_10 g0 (.inr (3, [.ref s1_1, .ref s2_1, .ref s3_1, .ref s4_1, .ref s5_1, .ref s6_1, .ref s7_1, .int pa_1, .int lm_1, .ref s8_1, .ref s9_1, .ref s10_1, .int 1, .ref s11_1, .int 0, .ref s12_1, .ref s13_1, .ref s14_1, .int 1, .ref s15_1, .ref s16_1, .ref s17_1, .ref s18_1])) = f_13 at hP hD hPI es_f_13 eq_14 hfr hXL
  refine lv_iconst (v := 0) hx hb dX3_find_22 (by decide) ?_
  refine lv_istore_n (lv' := [(2, .int 0), (0, .ref g0), (1, .int o0)]) hx hb dX3_find_23 rfl hl (by decide) rfl (fun ls hl => ?_)
  have hfrE24 := hfr
  have loop_24 : ∀ (n : Nat) (i2 : Int32)   (fl : Nat → va_E) (H : Heap) (locs : List Loc) (ls : Array Slot), (0 ≤ i2.toInt ∧ i2.toInt ≤ 24) → (24 - i2.toInt).toNat < n → (FR (sK [10, 21, 22, 23, 24]) K L f_13 fl ∧ (XL kI kJ K L fl 23 24)) → PR kI kJ kZ K L fl → va_P (dC, dI) vwCl (va_pl L fl) H → va_D A (va_pl L fl) → va_S A s.heap H locs → lv_has ls 6 [(2, .int i2), (0, .ref g0), (1, .int o0)] → W p l e (headSpec wsX3_find ({ frames := 2, cells := 0, slots := 0, locals := 50 } : Room)).room s m (([.ref g0, .int o0] : List Value).toArray) below meth c H locs 0 0 Q0 (F0 m 24 ls []) := by
    intro n
    induction n with
    | zero => intro i2 fl H locs ls  _ h9; exact absurd h9 (Nat.not_lt_zero _)
    | succ n ih_24 =>
      intro i2 fl H locs ls  hI hM hFN hPI hP hD hS hl
      obtain ⟨hfr, hFN⟩ := hFN
      have hXL := hFN
      refine lv_iload_n hx hb dX3_find_24 rfl (lv_at hl 0 rfl) ?_
      refine lv_aload_n hx hb dX3_find_25 rfl (lv_at hl 1 rfl) ?_
      obtain ⟨s1_15, s2_15, s3_15, s4_15, s5_15, s6_15, s7_15, pa_15, lm_15, s8_15, s9_15, s10_15, fm_15, s11_15, nm_15, s12_15, s13_15, s14_15, rm_15, s15_15, s16_15, s17_15, s18_15, e_15, fs1_15, fs2_15, fs3_15, fs4_15, fs5_15, fs6_15, fs7_15, flm_15, fs8_15, fs9_15, fs10_15, ffm_15, fs11_15, fnm_15, fs12_15, fs13_15, fs14_15, frm_15, fs15_15, fs16_15, fs17_15, fs18_15⟩ := hPI.a10 hg0
      obtain ⟨k_15, hk_15⟩ := va_plg hg0.1 e_15
      obtain rfl : s1_1 = s1_15 := hU _ _ fs1_1.1 fs1_15.1 (fs1_1.2.trans fs1_15.2.symm)
      obtain rfl : s2_1 = s2_15 := hU _ _ fs2_1.1 fs2_15.1 (fs2_1.2.trans fs2_15.2.symm)
      obtain rfl : s3_1 = s3_15 := hU _ _ fs3_1.1 fs3_15.1 (fs3_1.2.trans fs3_15.2.symm)
      obtain rfl : s4_1 = s4_15 := hU _ _ fs4_1.1 fs4_15.1 (fs4_1.2.trans fs4_15.2.symm)
      obtain rfl : s5_1 = s5_15 := hU _ _ fs5_1.1 fs5_15.1 (fs5_1.2.trans fs5_15.2.symm)
      obtain rfl : s6_1 = s6_15 := hU _ _ fs6_1.1 fs6_15.1 (fs6_1.2.trans fs6_15.2.symm)
      obtain rfl : s7_1 = s7_15 := hU _ _ fs7_1.1 fs7_15.1 (fs7_1.2.trans fs7_15.2.symm)
      obtain rfl : s8_1 = s8_15 := hU _ _ fs8_1.1 fs8_15.1 (fs8_1.2.trans fs8_15.2.symm)
      obtain rfl : s9_1 = s9_15 := hU _ _ fs9_1.1 fs9_15.1 (fs9_1.2.trans fs9_15.2.symm)
      obtain rfl : s10_1 = s10_15 := hU _ _ fs10_1.1 fs10_15.1 (fs10_1.2.trans fs10_15.2.symm)
      obtain rfl : s11_1 = s11_15 := hU _ _ fs11_1.1 fs11_15.1 (fs11_1.2.trans fs11_15.2.symm)
      obtain rfl : s12_1 = s12_15 := hU _ _ fs12_1.1 fs12_15.1 (fs12_1.2.trans fs12_15.2.symm)
      obtain rfl : s13_1 = s13_15 := hU _ _ fs13_1.1 fs13_15.1 (fs13_1.2.trans fs13_15.2.symm)
      obtain rfl : s14_1 = s14_15 := hU _ _ fs14_1.1 fs14_15.1 (fs14_1.2.trans fs14_15.2.symm)
      obtain rfl : s15_1 = s15_15 := hU _ _ fs15_1.1 fs15_15.1 (fs15_1.2.trans fs15_15.2.symm)
      obtain rfl : s16_1 = s16_15 := hU _ _ fs16_1.1 fs16_15.1 (fs16_1.2.trans fs16_15.2.symm)
      obtain rfl : s17_1 = s17_15 := hU _ _ fs17_1.1 fs17_15.1 (fs17_1.2.trans fs17_15.2.symm)
      obtain rfl : s18_1 = s18_15 := hU _ _ fs18_1.1 fs18_15.1 (fs18_1.2.trans fs18_15.2.symm)
      refine va_get (D := (dC, dI)) (ci := 3) (v := .int fm_15) (C := RX3) (T := TX3) (N := 23) hx hb hts iX3_ hown hK hP k_15 hk_15 rfl 12 (by decide) (hts (.fieldLink RX3 167 "FieldLeavesModel" "foundMany" "I") (by decide +kernel)) (fun _ h9 => h9) rfl dX3_find_26 ?_
      refine lv_icmp_ge (tgt := 200) hx hb dX3_find_29 (by decide) (fun c_16 => ?_) (fun c_16 => ?_)
      · have c_16 := Int32.le_iff_toInt_le.mp c_16
        refine lv_iconst (v := 0) hx hb dX3_find_200 (by decide) ?_
        refine lv_istore_n (lv' := [(2, .int 0), (0, .ref g0), (1, .int o0)]) hx hb dX3_find_201 rfl hl (by decide) rfl (fun ls hl => ?_)
        have hfrE202 := hfr
        have loop_202 : ∀ (n : Nat) (j2 : Int32)   (fl202 : Nat → va_E) (H : Heap) (locs : List Loc) (ls : Array Slot), (0 ≤ j2.toInt ∧ j2.toInt ≤ 24) → (24 - j2.toInt).toNat < n → (FR (sK [10, 21, 22, 23, 24]) K L fl fl202 ∧ (XL kI kJ K L fl202 23 24)) → PR kI kJ kZ K L fl202 → va_P (dC, dI) vwCl (va_pl L fl202) H → va_D A (va_pl L fl202) → va_S A s.heap H locs → lv_has ls 6 [(2, .int j2), (0, .ref g0), (1, .int o0)] → W p l e (headSpec wsX3_find ({ frames := 2, cells := 0, slots := 0, locals := 50 } : Room)).room s m (([.ref g0, .int o0] : List Value).toArray) below meth c H locs 0 0 Q0 (F0 m 202 ls []) := by
          intro n
          induction n with
          | zero => intro j2 fl202 H locs ls  _ h9; exact absurd h9 (Nat.not_lt_zero _)
          | succ n ih_202 =>
            intro j2 fl202 H locs ls  hI hM hFN hPI hP hD hS hl
            obtain ⟨hfr, hFN⟩ := hFN
            have hXL := hFN
            refine lv_iload_n hx hb dX3_find_202 rfl (lv_at hl 0 rfl) ?_
            refine lv_aload_n hx hb dX3_find_203 rfl (lv_at hl 1 rfl) ?_
            obtain ⟨s1_17, s2_17, s3_17, s4_17, s5_17, s6_17, s7_17, pa_17, lm_17, s8_17, s9_17, s10_17, fm_17, s11_17, nm_17, s12_17, s13_17, s14_17, rm_17, s15_17, s16_17, s17_17, s18_17, e_17, fs1_17, fs2_17, fs3_17, fs4_17, fs5_17, fs6_17, fs7_17, flm_17, fs8_17, fs9_17, fs10_17, ffm_17, fs11_17, fnm_17, fs12_17, fs13_17, fs14_17, frm_17, fs15_17, fs16_17, fs17_17, fs18_17⟩ := hPI.a10 hg0
            obtain ⟨k_17, hk_17⟩ := va_plg hg0.1 e_17
            obtain rfl : s1_1 = s1_17 := hU _ _ fs1_1.1 fs1_17.1 (fs1_1.2.trans fs1_17.2.symm)
            obtain rfl : s2_1 = s2_17 := hU _ _ fs2_1.1 fs2_17.1 (fs2_1.2.trans fs2_17.2.symm)
            obtain rfl : s3_1 = s3_17 := hU _ _ fs3_1.1 fs3_17.1 (fs3_1.2.trans fs3_17.2.symm)
            obtain rfl : s4_1 = s4_17 := hU _ _ fs4_1.1 fs4_17.1 (fs4_1.2.trans fs4_17.2.symm)
            obtain rfl : s5_1 = s5_17 := hU _ _ fs5_1.1 fs5_17.1 (fs5_1.2.trans fs5_17.2.symm)
            obtain rfl : s6_1 = s6_17 := hU _ _ fs6_1.1 fs6_17.1 (fs6_1.2.trans fs6_17.2.symm)
            obtain rfl : s7_1 = s7_17 := hU _ _ fs7_1.1 fs7_17.1 (fs7_1.2.trans fs7_17.2.symm)
            obtain rfl : s8_1 = s8_17 := hU _ _ fs8_1.1 fs8_17.1 (fs8_1.2.trans fs8_17.2.symm)
            obtain rfl : s9_1 = s9_17 := hU _ _ fs9_1.1 fs9_17.1 (fs9_1.2.trans fs9_17.2.symm)
            obtain rfl : s10_1 = s10_17 := hU _ _ fs10_1.1 fs10_17.1 (fs10_1.2.trans fs10_17.2.symm)
            obtain rfl : s11_1 = s11_17 := hU _ _ fs11_1.1 fs11_17.1 (fs11_1.2.trans fs11_17.2.symm)
            obtain rfl : s12_1 = s12_17 := hU _ _ fs12_1.1 fs12_17.1 (fs12_1.2.trans fs12_17.2.symm)
            obtain rfl : s13_1 = s13_17 := hU _ _ fs13_1.1 fs13_17.1 (fs13_1.2.trans fs13_17.2.symm)
            obtain rfl : s14_1 = s14_17 := hU _ _ fs14_1.1 fs14_17.1 (fs14_1.2.trans fs14_17.2.symm)
            obtain rfl : s15_1 = s15_17 := hU _ _ fs15_1.1 fs15_17.1 (fs15_1.2.trans fs15_17.2.symm)
            obtain rfl : s16_1 = s16_17 := hU _ _ fs16_1.1 fs16_17.1 (fs16_1.2.trans fs16_17.2.symm)
            obtain rfl : s17_1 = s17_17 := hU _ _ fs17_1.1 fs17_17.1 (fs17_1.2.trans fs17_17.2.symm)
            obtain rfl : s18_1 = s18_17 := hU _ _ fs18_1.1 fs18_17.1 (fs18_1.2.trans fs18_17.2.symm)
            refine va_get (D := (dC, dI)) (ci := 3) (v := .int fm_17) (C := RX3) (T := TX3) (N := 23) hx hb hts iX3_ hown hK hP k_17 hk_17 rfl 12 (by decide) (hts (.fieldLink RX3 167 "FieldLeavesModel" "foundMany" "I") (by decide +kernel)) (fun _ h9 => h9) rfl dX3_find_204 ?_
            refine lv_icmp_ge (tgt := 234) hx hb dX3_find_207 (by decide) (fun c_18 => ?_) (fun c_18 => ?_)
            · have c_18 := Int32.le_iff_toInt_le.mp c_18
              refine lv_aload_n hx hb dX3_find_234 rfl (lv_at hl 1 rfl) ?_
              obtain ⟨k_19, hk_19⟩ := va_plg hg0.1 e_17
              refine va_get (D := (dC, dI)) (ci := 3) (v := .int rm_17) (C := RX3) (T := TX3) (N := 23) hx hb hts iX3_ hown hK hP k_19 hk_19 rfl 18 (by decide) (hts (.fieldLink RX3 163 "FieldLeavesModel" "isRoom" "Z") (by decide +kernel)) (fun _ h9 => h9) rfl dX3_find_235 ?_
              rcases frm_17 with rfl | rfl
              · subst eQ
                exact W.zret (v := 1) hx hb hr rfl (fun t ht hW => ⟨⟨1, (), rfl, Or.inl rfl, fl202, hPI, ⟨(FR.tr hfrE24 (FR.tr hfrE202 hfr (fun _ h => h)) (fun _ h => h)), hXL⟩, by rw [ht]; exact hP, hD⟩, hS.F ht⟩) hS.2.2 dX3_find_238
              · subst eQ
                exact W.zret (v := 0) hx hb hr rfl (fun t ht hW => ⟨⟨0, (), rfl, Or.inr rfl, fl202, hPI, ⟨(FR.tr hfrE24 (FR.tr hfrE202 hfr (fun _ h => h)) (fun _ h => h)), hXL⟩, by rw [ht]; exact hP, hD⟩, hS.F ht⟩) hS.2.2 dX3_find_238
            · have c_18 := mt Int32.le_iff_toInt_le.mpr c_18
              refine lv_aload_n hx hb dX3_find_210 rfl (lv_at hl 1 rfl) ?_
              obtain ⟨k_20, hk_20⟩ := va_plg hg0.1 e_17
              refine va_get (D := (dC, dI)) (ci := 3) (v := .int rm_17) (C := RX3) (T := TX3) (N := 23) hx hb hts iX3_ hown hK hP k_20 hk_20 rfl 18 (by decide) (hts (.fieldLink RX3 163 "FieldLeavesModel" "isRoom" "Z") (by decide +kernel)) (fun _ h9 => h9) rfl dX3_find_211 ?_
              rcases frm_17 with rfl | rfl
              · refine lv_if_eq (tgt := 234) hx hb dX3_find_214 (by decide) (fun c9 => absurd c9 (by decide)) (fun _ => ?_)
                refine lv_aload_n hx hb dX3_find_217 rfl (lv_at hl 1 rfl) ?_
                refine lv_iload_n hx hb dX3_find_218 rfl (lv_at hl 0 rfl) ?_
                refine lv_aload_n hx hb dX3_find_219 rfl (lv_at hl 1 rfl) ?_
                obtain ⟨k_21, hk_21⟩ := va_plg hg0.1 e_17
                refine va_get (D := (dC, dI)) (ci := 3) (v := .ref s11_1) (C := RX3) (T := TX3) (N := 23) hx hb hts iX3_ hown hK hP k_21 hk_21 rfl 13 (by decide) (hts (.fieldLink RX3 44 "FieldLeavesModel" "found" "[I") (by decide +kernel)) (fun _ h9 => h9) rfl dX3_find_220 ?_
                refine lv_iload_n hx hb dX3_find_223 rfl (lv_at hl 0 rfl) ?_
                obtain ⟨g_22, e_22, fg_22⟩ := hPI.a21 fs11_1
                obtain ⟨k_22, hk_22⟩ := va_plg fs11_1.1 e_22
                have h_22 : vp_in j2 25 := (vp_in_iff.mpr (by constructor <;> omega))
                refine va_iald hx hb hK hP k_22 0 hk_22 rfl h_22 dX3_find_224 ?_
                refine lv_topi (fun z_22 ez_22 => ?_)
                have fz_22 := fg_22 _ (vp_lt h_22)
                rw [← ez_22] at fz_22
                have hFc := pl_free hD hS hA
                obtain ⟨k_23, hk_23⟩ := va_plg hg0.1 e_17
                refine va_callv (va_runV (b := g0) (As := [.int j2, .int z_22]) (rest := []) ⟨hx, hb, hml, hown, hts⟩ (q_X3_tellObject l dC dI TT H.size kI kJ kZ K L fl202 hPI g0 hg0 j2 z_22 (by constructor <;> omega) (by constructor <;> omega) hU hXL) (cwV 2 hts gX3_find_X3_tellObject rfl rfl rfl (by decide +kernel) ⟨Nat.le_of_ble_eq_true rfl, Nat.le_of_ble_eq_true rfl⟩) ⟨pr_blind, va_recv hK hP (ci := 3) rfl hk_23, (pr_S (ws := va_pl L fl202) (wA := va_pl L fl202) (tys := [(kI, .int), (kJ, .long), (kZ, .boolean)]) hP hK (hD.weaken (fun _ _ _ _ => trivial)) hst hS hFc).2⟩ rfl rfl hl.1 rfl (lv_room (Nat.le_of_ble_eq_true rfl)) dX3_find_225 ⟨Nat.le_of_ble_eq_true rfl, Nat.le_of_ble_eq_true rfl⟩) hS (fun q _ h => hFc q h) hFc (fun u t H1 locs ht hvm hw hB hz1 hk1 hS => ?_)
                obtain ⟨f_25, hPI, hrel, hP, hD9⟩ := hB
                rw [ht] at hP
                have hD := hD9.weaken (fun _ q _ h => hFc q.1 h)
                obtain ⟨hrelF, hrel⟩ := hrel
                have eq_26 := (hrelF s11_1 fs11_1.1 (by rw [fs11_1.2]; rfl)).trans e_22
                have hfr := FR.tr hfr hrelF (sK_sub (by decide))
                generalize H1 = H at hP hS ⊢
                have hXL := hrel
                obtain ⟨i_27, ei_27⟩ : ∃ y : Int32, y = j2 + 1 := ⟨_, rfl⟩
                refine lv_iinc (v := i_27) (lv' := [(2, .int i_27), (0, .ref g0), (1, .int o0)]) hx hb dX3_find_228 hl (k := 0) rfl (by rw [ei_27]; rfl) (by decide) rfl (fun ls hl => ?_)
                have ki_27 := inc_toInt ei_27 (by omega)
                refine lv_goto (tgt := 202) hx hb dX3_find_231 (by decide) ?_
                exact ih_202 i_27 f_25 _ _ _  (by omega) (by omega) ⟨hfr, hXL⟩ hPI hP hD hS (lv_sub hl [0, 1, 2] rfl)
              · refine lv_if_eq (tgt := 234) hx hb dX3_find_214 (by decide) (fun _ => ?_) (fun c9 => absurd c9 (by decide))
                refine lv_aload_n hx hb dX3_find_234 rfl (lv_at hl 1 rfl) ?_
                obtain ⟨k_28, hk_28⟩ := va_plg hg0.1 e_17
                refine va_get (D := (dC, dI)) (ci := 3) (v := .int 0) (C := RX3) (T := TX3) (N := 23) hx hb hts iX3_ hown hK hP k_28 hk_28 rfl 18 (by decide) (hts (.fieldLink RX3 163 "FieldLeavesModel" "isRoom" "Z") (by decide +kernel)) (fun _ h9 => h9) rfl dX3_find_235 ?_
                subst eQ
                exact W.zret (v := 0) hx hb hr rfl (fun t ht hW => ⟨⟨0, (), rfl, Or.inr rfl, fl202, hPI, ⟨(FR.tr hfrE24 (FR.tr hfrE202 hfr (fun _ h => h)) (fun _ h => h)), hXL⟩, by rw [ht]; exact hP, hD⟩, hS.F ht⟩) hS.2.2 dX3_find_238
        exact loop_202 25 0 fl _ _ _  (by omega) (by omega) ⟨FR.rf, hXL⟩ hPI hP hD hS hl
      · have c_16 := mt Int32.le_iff_toInt_le.mpr c_16
        refine lv_aload_n hx hb dX3_find_32 rfl (lv_at hl 1 rfl) ?_
        obtain ⟨k_29, hk_29⟩ := va_plg hg0.1 e_15
        refine va_get (D := (dC, dI)) (ci := 3) (v := .int rm_15) (C := RX3) (T := TX3) (N := 23) hx hb hts iX3_ hown hK hP k_29 hk_29 rfl 18 (by decide) (hts (.fieldLink RX3 163 "FieldLeavesModel" "isRoom" "Z") (by decide +kernel)) (fun _ h9 => h9) rfl dX3_find_33 ?_
        rcases frm_15 with rfl | rfl
        · refine lv_if_eq (tgt := 200) hx hb dX3_find_36 (by decide) (fun c9 => absurd c9 (by decide)) (fun _ => ?_)
          refine lv_aload_n hx hb dX3_find_39 rfl (lv_at hl 1 rfl) ?_
          obtain ⟨k_30, hk_30⟩ := va_plg hg0.1 e_15
          refine va_get (D := (dC, dI)) (ci := 3) (v := .ref s11_1) (C := RX3) (T := TX3) (N := 23) hx hb hts iX3_ hown hK hP k_30 hk_30 rfl 13 (by decide) (hts (.fieldLink RX3 44 "FieldLeavesModel" "found" "[I") (by decide +kernel)) (fun _ h9 => h9) rfl dX3_find_40 ?_
          refine lv_iload_n hx hb dX3_find_43 rfl (lv_at hl 0 rfl) ?_
          obtain ⟨g_31, e_31, fg_31⟩ := hPI.a21 fs11_1
          obtain ⟨k_31, hk_31⟩ := va_plg fs11_1.1 e_31
          have h_31 : vp_in i2 25 := (vp_in_iff.mpr (by constructor <;> omega))
          refine va_iald hx hb hK hP k_31 0 hk_31 rfl h_31 dX3_find_44 ?_
          refine lv_topi (fun z_31 ez_31 => ?_)
          have fz_31 := fg_31 _ (vp_lt h_31)
          rw [← ez_31] at fz_31
          refine lv_istore_n (lv' := [(3, .int z_31), (2, .int i2), (0, .ref g0), (1, .int o0)]) hx hb dX3_find_45 rfl hl (by decide) rfl (fun ls hl => ?_)
          refine lv_bipush (v := 8) hx hb dX3_find_46 (by decide) ?_
          refine lv_istore (lv' := [(4, .int 8), (3, .int z_31), (2, .int i2), (0, .ref g0), (1, .int o0)]) hx hb dX3_find_48 hl (by decide) rfl (fun ls hl => ?_)
          have hfrE50 := hfr
          have loop_50 : ∀ (n : Nat) (i4 : Int32)   (fl50 : Nat → va_E) (H : Heap) (locs : List Loc) (ls : Array Slot), (8 ≤ i4.toInt ∧ i4.toInt ≤ 16) → (16 - i4.toInt).toNat < n → (FR (sK [10, 21, 22, 23, 24]) K L fl fl50 ∧ (XL kI kJ K L fl50 23 24)) → PR kI kJ kZ K L fl50 → va_P (dC, dI) vwCl (va_pl L fl50) H → va_D A (va_pl L fl50) → va_S A s.heap H locs → lv_has ls 6 [(4, .int i4), (3, .int z_31), (2, .int i2), (0, .ref g0), (1, .int o0)] → W p l e (headSpec wsX3_find ({ frames := 2, cells := 0, slots := 0, locals := 50 } : Room)).room s m (([.ref g0, .int o0] : List Value).toArray) below meth c H locs 0 0 Q0 (F0 m 50 ls []) := by
            intro n
            induction n with
            | zero => intro i4 fl50 H locs ls  _ h9; exact absurd h9 (Nat.not_lt_zero _)
            | succ n ih_50 =>
              intro i4 fl50 H locs ls  hI hM hFN hPI hP hD hS hl
              obtain ⟨hfr, hFN⟩ := hFN
              have hXL := hFN
              refine lv_iload hx hb dX3_find_50 (lv_at hl 0 rfl) ?_
              refine lv_bipush (v := 16) hx hb dX3_find_52 (by decide) ?_
              refine lv_icmp_ge (tgt := 194) hx hb dX3_find_54 (by decide) (fun c_32 => ?_) (fun c_32 => ?_)
              · have c_32 := Int32.le_iff_toInt_le.mp c_32
                obtain ⟨i_33, ei_33⟩ : ∃ y : Int32, y = i2 + 1 := ⟨_, rfl⟩
                refine lv_iinc (v := i_33) (lv' := [(2, .int i_33), (4, .int i4), (3, .int z_31), (0, .ref g0), (1, .int o0)]) hx hb dX3_find_194 hl (k := 2) rfl (by rw [ei_33]; rfl) (by decide) rfl (fun ls hl => ?_)
                have ki_33 := inc_toInt ei_33 (by omega)
                refine lv_goto (tgt := 24) hx hb dX3_find_197 (by decide) ?_
                exact ih_24 i_33 fl50 _ _ _  (by omega) (by omega) ⟨(FR.tr hfrE50 hfr (fun _ h => h)), hXL⟩ hPI hP hD hS (lv_sub hl [0, 3, 4] rfl)
              · have c_32 := mt Int32.le_iff_toInt_le.mpr c_32
                refine lv_iload hx hb dX3_find_57 (lv_at hl 0 rfl) ?_
                refine va_calli (va_runS (As := [.int i4]) (rest := []) ⟨hx, hb, hml, hown, hts⟩ (c_X3_isLink l dC dI TT H.size i4) (va_cwS 1 hts gX3_find_X3_isLink rfl rfl rfl (by decide +kernel) ⟨Nat.le_of_ble_eq_true rfl, Nat.le_of_ble_eq_true rfl⟩) (pr_S (ws := []) (wA := []) (tys := []) vp_nil (hK.sub [] rfl) vd_nil hst hS (ro_free hS hA)) rfl rfl hl.1 rfl (lv_room (Nat.le_of_ble_eq_true rfl)) dX3_find_59 ⟨Nat.le_of_ble_eq_true rfl, Nat.le_of_ble_eq_true rfl⟩) hS (fun q _ h => (ro_free hS hA) q h) (ro_free hS hA) (fun r_34 u t H1 locs ht hvm hw hB hz1 hk1 hS => ?_)
                have hP := ro_keep hP hk1
                generalize H1 = H at hP hS ⊢
                rcases hw with ⟨rfl, hp_35⟩ | ⟨rfl, hp_35⟩
                · refine lv_if_eq (tgt := 95) hx hb dX3_find_62 (by decide) (fun c9 => absurd c9 (by decide)) (fun _ => ?_)
                  refine lv_aload_n hx hb dX3_find_65 rfl (lv_at hl 3 rfl) ?_
                  obtain ⟨s1_36, s2_36, s3_36, s4_36, s5_36, s6_36, s7_36, pa_36, lm_36, s8_36, s9_36, s10_36, fm_36, s11_36, nm_36, s12_36, s13_36, s14_36, rm_36, s15_36, s16_36, s17_36, s18_36, e_36, fs1_36, fs2_36, fs3_36, fs4_36, fs5_36, fs6_36, fs7_36, flm_36, fs8_36, fs9_36, fs10_36, ffm_36, fs11_36, fnm_36, fs12_36, fs13_36, fs14_36, frm_36, fs15_36, fs16_36, fs17_36, fs18_36⟩ := hPI.a10 hg0
                  obtain ⟨k_36, hk_36⟩ := va_plg hg0.1 e_36
                  obtain rfl : s1_1 = s1_36 := hU _ _ fs1_1.1 fs1_36.1 (fs1_1.2.trans fs1_36.2.symm)
                  obtain rfl : s2_1 = s2_36 := hU _ _ fs2_1.1 fs2_36.1 (fs2_1.2.trans fs2_36.2.symm)
                  obtain rfl : s3_1 = s3_36 := hU _ _ fs3_1.1 fs3_36.1 (fs3_1.2.trans fs3_36.2.symm)
                  obtain rfl : s4_1 = s4_36 := hU _ _ fs4_1.1 fs4_36.1 (fs4_1.2.trans fs4_36.2.symm)
                  obtain rfl : s5_1 = s5_36 := hU _ _ fs5_1.1 fs5_36.1 (fs5_1.2.trans fs5_36.2.symm)
                  obtain rfl : s6_1 = s6_36 := hU _ _ fs6_1.1 fs6_36.1 (fs6_1.2.trans fs6_36.2.symm)
                  obtain rfl : s7_1 = s7_36 := hU _ _ fs7_1.1 fs7_36.1 (fs7_1.2.trans fs7_36.2.symm)
                  obtain rfl : s8_1 = s8_36 := hU _ _ fs8_1.1 fs8_36.1 (fs8_1.2.trans fs8_36.2.symm)
                  obtain rfl : s9_1 = s9_36 := hU _ _ fs9_1.1 fs9_36.1 (fs9_1.2.trans fs9_36.2.symm)
                  obtain rfl : s10_1 = s10_36 := hU _ _ fs10_1.1 fs10_36.1 (fs10_1.2.trans fs10_36.2.symm)
                  obtain rfl : s11_1 = s11_36 := hU _ _ fs11_1.1 fs11_36.1 (fs11_1.2.trans fs11_36.2.symm)
                  obtain rfl : s12_1 = s12_36 := hU _ _ fs12_1.1 fs12_36.1 (fs12_1.2.trans fs12_36.2.symm)
                  obtain rfl : s13_1 = s13_36 := hU _ _ fs13_1.1 fs13_36.1 (fs13_1.2.trans fs13_36.2.symm)
                  obtain rfl : s14_1 = s14_36 := hU _ _ fs14_1.1 fs14_36.1 (fs14_1.2.trans fs14_36.2.symm)
                  obtain rfl : s15_1 = s15_36 := hU _ _ fs15_1.1 fs15_36.1 (fs15_1.2.trans fs15_36.2.symm)
                  obtain rfl : s16_1 = s16_36 := hU _ _ fs16_1.1 fs16_36.1 (fs16_1.2.trans fs16_36.2.symm)
                  obtain rfl : s17_1 = s17_36 := hU _ _ fs17_1.1 fs17_36.1 (fs17_1.2.trans fs17_36.2.symm)
                  obtain rfl : s18_1 = s18_36 := hU _ _ fs18_1.1 fs18_36.1 (fs18_1.2.trans fs18_36.2.symm)
                  refine va_get (D := (dC, dI)) (ci := 3) (v := .ref s2_1) (C := RX3) (T := TX3) (N := 23) hx hb hts iX3_ hown hK hP k_36 hk_36 rfl 1 (by decide) (hts (.fieldLink RX3 13 "FieldLeavesModel" "classOf" "[I") (by decide +kernel)) (fun _ h9 => h9) rfl dX3_find_66 ?_
                  refine lv_iload_n hx hb dX3_find_69 rfl (lv_at hl 1 rfl) ?_
                  obtain ⟨g_37, e_37, fg_37⟩ := hPI.a12 fs2_1
                  obtain ⟨k_37, hk_37⟩ := va_plg fs2_1.1 e_37
                  have h_37 : vp_in z_31 6400 := (vp_in_iff.mpr (by constructor <;> omega))
                  refine va_iald hx hb hK hP k_37 0 hk_37 rfl h_37 dX3_find_70 ?_
                  refine lv_topi (fun z_37 ez_37 => ?_)
                  refine lv_iload hx hb dX3_find_71 (lv_at hl 0 rfl) ?_
                  refine va_calli (va_runS (As := [.int z_37, .int i4]) (rest := []) ⟨hx, hb, hml, hown, hts⟩ (q_X3_has l dC dI TT H.size z_37 i4) (va_cwS 2 hts gX3_find_X3_has rfl rfl rfl (by decide +kernel) ⟨Nat.le_of_ble_eq_true rfl, Nat.le_of_ble_eq_true rfl⟩) (pr_S (ws := []) (wA := []) (tys := []) vp_nil (hK.sub [] rfl) vd_nil hst hS (ro_free hS hA)) rfl rfl hl.1 rfl (lv_room (Nat.le_of_ble_eq_true rfl)) dX3_find_73 ⟨Nat.le_of_ble_eq_true rfl, Nat.le_of_ble_eq_true rfl⟩) hS (fun q _ h => (ro_free hS hA) q h) (ro_free hS hA) (fun r_38 u t H1 locs ht hvm hw hB hz1 hk1 hS => ?_)
                  have hP := ro_keep hP hk1
                  generalize H1 = H at hP hS ⊢
                  rcases hw with ⟨rfl, hp_39⟩ | ⟨rfl, hp_39⟩
                  · refine lv_if_eq (tgt := 95) hx hb dX3_find_76 (by decide) (fun c9 => absurd c9 (by decide)) (fun _ => ?_)
                    refine lv_aload_n hx hb dX3_find_79 rfl (lv_at hl 3 rfl) ?_
                    obtain ⟨k_40, hk_40⟩ := va_plg hg0.1 e_36
                    refine va_get (D := (dC, dI)) (ci := 3) (v := .ref s3_1) (C := RX3) (T := TX3) (N := 23) hx hb hts iX3_ hown hK hP k_40 hk_40 rfl 2 (by decide) (hts (.fieldLink RX3 17 "FieldLeavesModel" "field" "[J") (by decide +kernel)) (fun _ h9 => h9) rfl dX3_find_80 ?_
                    refine lv_bipush (v := 17) hx hb dX3_find_83 (by decide) ?_
                    refine lv_iload_n hx hb dX3_find_85 rfl (lv_at hl 1 rfl) ?_
                    refine lv_imul hx hb dX3_find_86 ?_
                    refine lv_topi (fun z_41 ez_41 => ?_)
                    have kz_41 := mul17 ez_41 (by omega) (by omega)
                    refine lv_iload hx hb dX3_find_87 (lv_at hl 0 rfl) ?_
                    refine lv_iadd hx hb dX3_find_89 ?_
                    refine lv_topi (fun z_42 ez_42 => ?_)
                    have kz_42 := add_toInt ez_42 (by omega) (by omega)
                    obtain ⟨g_43, e_43, fg_43⟩ := hPI.a13 fs3_1
                    obtain ⟨k_43, hk_43⟩ := va_plg fs3_1.1 e_43
                    have h_43 : vp_in z_42 108800 := (vp_in_iff.mpr (by constructor <;> omega))
                    refine va_lald hx hb hK hP k_43 1 hk_43 rfl h_43 dX3_find_90 ?_
                    refine lv_topl (fun z_43 ez_43 => ?_)
                    have fz_43 := rgF.at fg_43 (o := z_31) (f := i4) (w := z_42) (by constructor <;> omega) (by omega) (by omega)
                    rw [← ez_43] at fz_43
                    refine lv_l2i hx hb dX3_find_91 rfl ?_
                    refine lv_topi (fun z_44 ez_44 => ?_)
                    have kz_44 := l2i_sm ez_44 (by omega) (by omega)
                    refine lv_goto (tgt := 96) hx hb dX3_find_92 (by decide) ?_
                    refine lv_istore (lv' := [(5, .int z_44), (4, .int i4), (3, .int z_31), (2, .int i2), (0, .ref g0), (1, .int o0)]) hx hb dX3_find_96 hl (by decide) rfl (fun ls hl => ?_)
                    refine lv_iload hx hb dX3_find_98 (lv_at hl 0 rfl) ?_
                    refine lv_iconst (v := (-1)) hx hb dX3_find_100 (by decide) ?_
                    refine lv_icmp_eq (tgt := 188) hx hb dX3_find_101 (by decide) (fun c_45 => ?_) (fun c_45 => ?_)
                    · have c_45 := congrArg Int32.toInt c_45
                      obtain ⟨i_46, ei_46⟩ : ∃ y : Int32, y = i4 + 1 := ⟨_, rfl⟩
                      refine lv_iinc (v := i_46) (lv' := [(4, .int i_46), (5, .int z_44), (3, .int z_31), (2, .int i2), (0, .ref g0), (1, .int o0)]) hx hb dX3_find_188 hl (k := 1) rfl (by rw [ei_46]; rfl) (by decide) rfl (fun ls hl => ?_)
                      have ki_46 := inc_toInt ei_46 (by omega)
                      refine lv_goto (tgt := 50) hx hb dX3_find_191 (by decide) ?_
                      exact ih_50 i_46 fl50 _ _ _  (by omega) (by omega) ⟨hfr, hXL⟩ hPI hP hD hS (lv_sub hl [0, 2, 3, 4, 5] rfl)
                    · have c_45 := mt Int32.toInt_inj.mp c_45
                      refine lv_aload_n hx hb dX3_find_104 rfl (lv_at hl 4 rfl) ?_
                      refine lv_iload hx hb dX3_find_105 (lv_at hl 0 rfl) ?_
                      obtain ⟨k_47, hk_47⟩ := va_plg hg0.1 e_36
                      refine va_calli (va_runV (b := g0) (As := [.int z_44]) (rest := []) ⟨hx, hb, hml, hown, hts⟩ (q_X3_numberOf l dC dI TT H.size kI kJ kZ K L fl50 hPI g0 hg0 z_44) (cwV 1 hts gX3_find_X3_numberOf rfl rfl rfl (by decide +kernel) ⟨Nat.le_of_ble_eq_true rfl, Nat.le_of_ble_eq_true rfl⟩) ⟨pr_blind, va_recv hK hP (ci := 3) rfl hk_47, (pr_S (ws := va_pl L fl50) (wA := []) (tys := [(kI, .int), (kJ, .long), (kZ, .boolean)]) hP hK vd_nil hst hS (ro_free hS hA)).2⟩ rfl rfl hl.1 rfl (lv_room (Nat.le_of_ble_eq_true rfl)) dX3_find_107 ⟨Nat.le_of_ble_eq_true rfl, Nat.le_of_ble_eq_true rfl⟩) hS (fun q _ h => (ro_free hS hA) q h) (ro_free hS hA) (fun r_48 u t H1 locs ht hvm hw hB hz1 hk1 hS => ?_)
                      have hP := ro_keep hP hk1
                      generalize H1 = H at hP hS ⊢
                      refine lv_bipush (v := (-4)) hx hb dX3_find_110 (by decide) ?_
                      refine lv_icmp_ne (tgt := 188) hx hb dX3_find_112 (by decide) (fun c_49 => ?_) (fun c_49 => ?_)
                      · have c_49 := mt Int32.toInt_inj.mp c_49
                        obtain ⟨i_50, ei_50⟩ : ∃ y : Int32, y = i4 + 1 := ⟨_, rfl⟩
                        refine lv_iinc (v := i_50) (lv' := [(4, .int i_50), (5, .int z_44), (3, .int z_31), (2, .int i2), (0, .ref g0), (1, .int o0)]) hx hb dX3_find_188 hl (k := 1) rfl (by rw [ei_50]; rfl) (by decide) rfl (fun ls hl => ?_)
                        have ki_50 := inc_toInt ei_50 (by omega)
                        refine lv_goto (tgt := 50) hx hb dX3_find_191 (by decide) ?_
                        exact ih_50 i_50 fl50 _ _ _  (by omega) (by omega) ⟨hfr, hXL⟩ hPI hP hD hS (lv_sub hl [0, 2, 3, 4, 5] rfl)
                      · have c_49 := congrArg Int32.toInt c_49
                        refine lv_aload_n hx hb dX3_find_115 rfl (lv_at hl 4 rfl) ?_
                        refine lv_aload_n hx hb dX3_find_116 rfl (lv_at hl 4 rfl) ?_
                        obtain ⟨k_51, hk_51⟩ := va_plg hg0.1 e_36
                        refine va_get (D := (dC, dI)) (ci := 3) (v := .int rm_36) (C := RX3) (T := TX3) (N := 23) hx hb hts iX3_ hown hK hP k_51 hk_51 rfl 18 (by decide) (hts (.fieldLink RX3 163 "FieldLeavesModel" "isRoom" "Z") (by decide +kernel)) (fun _ h9 => h9) rfl dX3_find_117 ?_
                        rcases frm_36 with rfl | rfl
                        · refine lv_if_eq (tgt := 136) hx hb dX3_find_120 (by decide) (fun c9 => absurd c9 (by decide)) (fun _ => ?_)
                          refine lv_aload_n hx hb dX3_find_123 rfl (lv_at hl 4 rfl) ?_
                          obtain ⟨k_52, hk_52⟩ := va_plg hg0.1 e_36
                          refine va_get (D := (dC, dI)) (ci := 3) (v := .int fm_36) (C := RX3) (T := TX3) (N := 23) hx hb hts iX3_ hown hK hP k_52 hk_52 rfl 12 (by decide) (hts (.fieldLink RX3 167 "FieldLeavesModel" "foundMany" "I") (by decide +kernel)) (fun _ h9 => h9) rfl dX3_find_124 ?_
                          refine lv_bipush (v := 24) hx hb dX3_find_127 (by decide) ?_
                          refine lv_icmp_ge (tgt := 136) hx hb dX3_find_129 (by decide) (fun c_53 => ?_) (fun c_53 => ?_)
                          · have c_53 := Int32.le_iff_toInt_le.mp c_53
                            refine lv_iconst (v := 0) hx hb dX3_find_136 (by decide) ?_
                            obtain ⟨k_54, hk_54⟩ := va_plg hg0.1 e_36
                            have hD9 := hD
                            refine va_put (D := (dC, dI)) (ci := 3) (v := .int 0) (ty := .boolean) (C := RX3) (T := TX3) (N := 23) hx hb hts iX3_ tyX3 tyX3_ok nmX3 hown hK hP hD hS k_54 hk_54 rfl 18 (by decide) (hts (.fieldLink RX3 163 "FieldLeavesModel" "isRoom" "Z") (by decide +kernel)) (fun _ h9 => h9) rfl (by decide +kernel) rfl rfl (Nat.le_of_ble_eq_true rfl) dX3_find_137 (fun H locs hP hD hS => ?_)
                            have hP : va_P (dC, dI) vwCl (va_pl L (va_up fl50 g0 (.inr (3, [.ref s1_1, .ref s2_1, .ref s3_1, .ref s4_1, .ref s5_1, .ref s6_1, .ref s7_1, .int pa_36, .int lm_36, .ref s8_1, .ref s9_1, .ref s10_1, .int fm_36, .ref s11_1, .int nm_36, .ref s12_1, .ref s13_1, .ref s14_1, .int 0, .ref s15_1, .ref s16_1, .ref s17_1, .ref s18_1])))) H := by rw [← va_pls hD9 hg0.1 hk_54 _]; exact hP
                            have hD : va_D A (va_pl L (va_up fl50 g0 (.inr (3, [.ref s1_1, .ref s2_1, .ref s3_1, .ref s4_1, .ref s5_1, .ref s6_1, .ref s7_1, .int pa_36, .int lm_36, .ref s8_1, .ref s9_1, .ref s10_1, .int fm_36, .ref s11_1, .int nm_36, .ref s12_1, .ref s13_1, .ref s14_1, .int 0, .ref s15_1, .ref s16_1, .ref s17_1, .ref s18_1])))) := by rw [← va_pls hD9 hg0.1 hk_54 _]; exact hD
                            have hPI := hPI.put (e := .inr (3, [.ref s1_1, .ref s2_1, .ref s3_1, .ref s4_1, .ref s5_1, .ref s6_1, .ref s7_1, .int pa_36, .int lm_36, .ref s8_1, .ref s9_1, .ref s10_1, .int fm_36, .ref s11_1, .int nm_36, .ref s12_1, .ref s13_1, .ref s14_1, .int 0, .ref s15_1, .ref s16_1, .ref s17_1, .ref s18_1])) hg0 ⟨s1_1, s2_1, s3_1, s4_1, s5_1, s6_1, s7_1, pa_36, lm_36, s8_1, s9_1, s10_1, fm_36, s11_1, nm_36, s12_1, s13_1, s14_1, 0, s15_1, s16_1, s17_1, s18_1, rfl, fs1_1, fs2_1, fs3_1, fs4_1, fs5_1, fs6_1, fs7_1, flm_36, fs8_1, fs9_1, fs10_1, ffm_36, fs11_1, fnm_36, fs12_1, fs13_1, fs14_1, (Or.inr rfl), fs15_1, fs16_1, fs17_1, fs18_1⟩
                            have es_f_55 : va_up fl50 g0 (.inr (3, [.ref s1_1, .ref s2_1, .ref s3_1, .ref s4_1, .ref s5_1, .ref s6_1, .ref s7_1, .int pa_36, .int lm_36, .ref s8_1, .ref s9_1, .ref s10_1, .int fm_36, .ref s11_1, .int nm_36, .ref s12_1, .ref s13_1, .ref s14_1, .int 0, .ref s15_1, .ref s16_1, .ref s17_1, .ref s18_1])) g0 = .inr (3, [.ref s1_1, .ref s2_1, .ref s3_1, .ref s4_1, .ref s5_1, .ref s6_1, .ref s7_1, .int pa_36, .int lm_36, .ref s8_1, .ref s9_1, .ref s10_1, .int fm_36, .ref s11_1, .int nm_36, .ref s12_1, .ref s13_1, .ref s14_1, .int 0, .ref s15_1, .ref s16_1, .ref s17_1, .ref s18_1]) := va_up_self _ _ _
                            have eq_56 := (va_up_ne fl50 (.inr (3, [.ref s1_1, .ref s2_1, .ref s3_1, .ref s4_1, .ref s5_1, .ref s6_1, .ref s7_1, .int pa_36, .int lm_36, .ref s8_1, .ref s9_1, .ref s10_1, .int fm_36, .ref s11_1, .int nm_36, .ref s12_1, .ref s13_1, .ref s14_1, .int 0, .ref s15_1, .ref s16_1, .ref s17_1, .ref s18_1])) (isr_ne fs2_1 hg0 (by decide))).trans e_37
                            have eq_57 := (va_up_ne fl50 (.inr (3, [.ref s1_1, .ref s2_1, .ref s3_1, .ref s4_1, .ref s5_1, .ref s6_1, .ref s7_1, .int pa_36, .int lm_36, .ref s8_1, .ref s9_1, .ref s10_1, .int fm_36, .ref s11_1, .int nm_36, .ref s12_1, .ref s13_1, .ref s14_1, .int 0, .ref s15_1, .ref s16_1, .ref s17_1, .ref s18_1])) (isr_ne fs3_1 hg0 (by decide))).trans e_43
                            have hfr := fr_up (S := (sK [10, 21, 22, 23, 24])) (e := .inr (3, [.ref s1_1, .ref s2_1, .ref s3_1, .ref s4_1, .ref s5_1, .ref s6_1, .ref s7_1, .int pa_36, .int lm_36, .ref s8_1, .ref s9_1, .ref s10_1, .int fm_36, .ref s11_1, .int nm_36, .ref s12_1, .ref s13_1, .ref s14_1, .int 0, .ref s15_1, .ref s16_1, .ref s17_1, .ref s18_1])) hfr hg0 (by decide)
                            have hXL := XL.up (e := .inr (3, [.ref s1_1, .ref s2_1, .ref s3_1, .ref s4_1, .ref s5_1, .ref s6_1, .ref s7_1, .int pa_36, .int lm_36, .ref s8_1, .ref s9_1, .ref s10_1, .int fm_36, .ref s11_1, .int nm_36, .ref s12_1, .ref s13_1, .ref s14_1, .int 0, .ref s15_1, .ref s16_1, .ref s17_1, .ref s18_1])) hXL hg0 (by decide) (by decide)
                            generalize va_up fl50 g0 (.inr (3, [.ref s1_1, .ref s2_1, .ref s3_1, .ref s4_1, .ref s5_1, .ref s6_1, .ref s7_1, .int pa_36, .int lm_36, .ref s8_1, .ref s9_1, .ref s10_1, .int fm_36, .ref s11_1, .int nm_36, .ref s12_1, .ref s13_1, .ref s14_1, .int 0, .ref s15_1, .ref s16_1, .ref s17_1, .ref s18_1])) = f_55 at hP hD hPI es_f_55 eq_56 eq_57 hfr hXL
                            refine lv_aload_n hx hb dX3_find_140 rfl (lv_at hl 4 rfl) ?_
                            obtain ⟨k_58, hk_58⟩ := va_plg hg0.1 es_f_55
                            refine va_get (D := (dC, dI)) (ci := 3) (v := .ref s11_1) (C := RX3) (T := TX3) (N := 23) hx hb hts iX3_ hown hK hP k_58 hk_58 rfl 13 (by decide) (hts (.fieldLink RX3 44 "FieldLeavesModel" "found" "[I") (by decide +kernel)) (fun _ h9 => h9) rfl dX3_find_141 ?_
                            refine lv_aload_n hx hb dX3_find_144 rfl (lv_at hl 4 rfl) ?_
                            obtain ⟨k_59, hk_59⟩ := va_plg hg0.1 es_f_55
                            refine va_get (D := (dC, dI)) (ci := 3) (v := .int fm_36) (C := RX3) (T := TX3) (N := 23) hx hb hts iX3_ hown hK hP k_59 hk_59 rfl 12 (by decide) (hts (.fieldLink RX3 167 "FieldLeavesModel" "foundMany" "I") (by decide +kernel)) (fun _ h9 => h9) rfl dX3_find_145 ?_
                            refine lv_bipush (v := 24) hx hb dX3_find_148 (by decide) ?_
                            refine lv_icmp_ge (tgt := 160) hx hb dX3_find_150 (by decide) (fun c_60 => ?_) (fun c_60 => ?_)
                            · have c_60 := Int32.le_iff_toInt_le.mp c_60
                              refine lv_bipush (v := 24) hx hb dX3_find_160 (by decide) ?_
                              refine lv_iload hx hb dX3_find_162 (lv_at hl 0 rfl) ?_
                              obtain ⟨g_61, e_61, fg_61⟩ := hPI.a21 fs11_1
                              obtain ⟨k_61, hk_61⟩ := va_plg fs11_1.1 e_61
                              have h_61 : vp_in 24 25 := (vp_in_iff.mpr (by decide))
                              have fw_61 := updS (P := fun v => 0 ≤ v.toInt ∧ v.toInt < 6400) (k := Int32.toNatClampNeg 24) (v := z_44) fg_61 (by omega)
                              have hD9 := hD
                              refine va_iast hx hb hK hP hD hS k_61 0 hk_61 rfl h_61 dX3_find_164 (fun H locs hP hD hS => ?_)
                              have hP : va_P (dC, dI) vwCl (va_pl L (va_up f_55 s11_1 (.inl (kI, 25, .inl (upd g_61 (Int32.toNatClampNeg 24) z_44))))) H := by rw [← va_pls hD9 fs11_1.1 hk_61 _]; exact hP
                              have hD : va_D A (va_pl L (va_up f_55 s11_1 (.inl (kI, 25, .inl (upd g_61 (Int32.toNatClampNeg 24) z_44))))) := by rw [← va_pls hD9 fs11_1.1 hk_61 _]; exact hD
                              have hPI := hPI.put (e := .inl (kI, 25, .inl (upd g_61 (Int32.toNatClampNeg 24) z_44))) fs11_1 ⟨_, rfl, fw_61⟩
                              have es_f_62 : va_up f_55 s11_1 (.inl (kI, 25, .inl (upd g_61 (Int32.toNatClampNeg 24) z_44))) s11_1 = .inl (kI, 25, .inl (upd g_61 (Int32.toNatClampNeg 24) z_44)) := va_up_self _ _ _
                              have eq_63 := (va_up_ne f_55 (.inl (kI, 25, .inl (upd g_61 (Int32.toNatClampNeg 24) z_44))) (isr_ne hg0 fs11_1 (by decide))).trans es_f_55
                              have eq_64 := (va_up_ne f_55 (.inl (kI, 25, .inl (upd g_61 (Int32.toNatClampNeg 24) z_44))) (isr_ne fs2_1 fs11_1 (by decide))).trans eq_56
                              have eq_65 := (va_up_ne f_55 (.inl (kI, 25, .inl (upd g_61 (Int32.toNatClampNeg 24) z_44))) (isr_ne fs3_1 fs11_1 (by decide))).trans eq_57
                              have hfr := fr_up (S := (sK [10, 21, 22, 23, 24])) (e := .inl (kI, 25, .inl (upd g_61 (Int32.toNatClampNeg 24) z_44))) hfr fs11_1 (by decide)
                              have hXL := XL.up (e := .inl (kI, 25, .inl (upd g_61 (Int32.toNatClampNeg 24) z_44))) hXL fs11_1 (by decide) (by decide)
                              generalize va_up f_55 s11_1 (.inl (kI, 25, .inl (upd g_61 (Int32.toNatClampNeg 24) z_44))) = f_62 at hP hD hPI es_f_62 eq_63 eq_64 eq_65 hfr hXL
                              refine lv_aload_n hx hb dX3_find_165 rfl (lv_at hl 4 rfl) ?_
                              refine lv_dup hx hb dX3_find_166 rfl ?_
                              obtain ⟨k_66, hk_66⟩ := va_plg hg0.1 eq_63
                              refine va_get (D := (dC, dI)) (ci := 3) (v := .int fm_36) (C := RX3) (T := TX3) (N := 23) hx hb hts iX3_ hown hK hP k_66 hk_66 rfl 12 (by decide) (hts (.fieldLink RX3 167 "FieldLeavesModel" "foundMany" "I") (by decide +kernel)) (fun _ h9 => h9) rfl dX3_find_167 ?_
                              refine lv_aload_n hx hb dX3_find_170 rfl (lv_at hl 4 rfl) ?_
                              obtain ⟨k_67, hk_67⟩ := va_plg hg0.1 eq_63
                              refine va_get (D := (dC, dI)) (ci := 3) (v := .int fm_36) (C := RX3) (T := TX3) (N := 23) hx hb hts iX3_ hown hK hP k_67 hk_67 rfl 12 (by decide) (hts (.fieldLink RX3 167 "FieldLeavesModel" "foundMany" "I") (by decide +kernel)) (fun _ h9 => h9) rfl dX3_find_171 ?_
                              refine lv_bipush (v := 24) hx hb dX3_find_174 (by decide) ?_
                              refine lv_icmp_ge (tgt := 183) hx hb dX3_find_176 (by decide) (fun c_68 => ?_) (fun c_68 => ?_)
                              · have c_68 := Int32.le_iff_toInt_le.mp c_68
                                refine lv_iconst (v := 0) hx hb dX3_find_183 (by decide) ?_
                                refine lv_iadd hx hb dX3_find_184 ?_
                                refine lv_topi (fun z_69 ez_69 => ?_)
                                have kz_69 := add_toInt ez_69 (by omega) (by omega)
                                obtain ⟨k_70, hk_70⟩ := va_plg hg0.1 eq_63
                                have hD9 := hD
                                have rg_71 : 0 ≤ Int32.toInt z_69 ∧ Int32.toInt z_69 ≤ 24 := by constructor <;> omega
                                refine va_put (D := (dC, dI)) (ci := 3) (v := .int z_69) (ty := .int) (C := RX3) (T := TX3) (N := 23) hx hb hts iX3_ tyX3 tyX3_ok nmX3 hown hK hP hD hS k_70 hk_70 rfl 12 (by decide) (hts (.fieldLink RX3 167 "FieldLeavesModel" "foundMany" "I") (by decide +kernel)) (fun _ h9 => h9) rfl (by decide +kernel) rfl rfl (Nat.le_of_ble_eq_true rfl) dX3_find_185 (fun H locs hP hD hS => ?_)
                                have hP : va_P (dC, dI) vwCl (va_pl L (va_up f_62 g0 (.inr (3, [.ref s1_1, .ref s2_1, .ref s3_1, .ref s4_1, .ref s5_1, .ref s6_1, .ref s7_1, .int pa_36, .int lm_36, .ref s8_1, .ref s9_1, .ref s10_1, .int z_69, .ref s11_1, .int nm_36, .ref s12_1, .ref s13_1, .ref s14_1, .int 0, .ref s15_1, .ref s16_1, .ref s17_1, .ref s18_1])))) H := by rw [← va_pls hD9 hg0.1 hk_70 _]; exact hP
                                have hD : va_D A (va_pl L (va_up f_62 g0 (.inr (3, [.ref s1_1, .ref s2_1, .ref s3_1, .ref s4_1, .ref s5_1, .ref s6_1, .ref s7_1, .int pa_36, .int lm_36, .ref s8_1, .ref s9_1, .ref s10_1, .int z_69, .ref s11_1, .int nm_36, .ref s12_1, .ref s13_1, .ref s14_1, .int 0, .ref s15_1, .ref s16_1, .ref s17_1, .ref s18_1])))) := by rw [← va_pls hD9 hg0.1 hk_70 _]; exact hD
                                have hPI := hPI.put (e := .inr (3, [.ref s1_1, .ref s2_1, .ref s3_1, .ref s4_1, .ref s5_1, .ref s6_1, .ref s7_1, .int pa_36, .int lm_36, .ref s8_1, .ref s9_1, .ref s10_1, .int z_69, .ref s11_1, .int nm_36, .ref s12_1, .ref s13_1, .ref s14_1, .int 0, .ref s15_1, .ref s16_1, .ref s17_1, .ref s18_1])) hg0 ⟨s1_1, s2_1, s3_1, s4_1, s5_1, s6_1, s7_1, pa_36, lm_36, s8_1, s9_1, s10_1, z_69, s11_1, nm_36, s12_1, s13_1, s14_1, 0, s15_1, s16_1, s17_1, s18_1, rfl, fs1_1, fs2_1, fs3_1, fs4_1, fs5_1, fs6_1, fs7_1, flm_36, fs8_1, fs9_1, fs10_1, rg_71, fs11_1, fnm_36, fs12_1, fs13_1, fs14_1, (Or.inr rfl), fs15_1, fs16_1, fs17_1, fs18_1⟩
                                have es_f_72 : va_up f_62 g0 (.inr (3, [.ref s1_1, .ref s2_1, .ref s3_1, .ref s4_1, .ref s5_1, .ref s6_1, .ref s7_1, .int pa_36, .int lm_36, .ref s8_1, .ref s9_1, .ref s10_1, .int z_69, .ref s11_1, .int nm_36, .ref s12_1, .ref s13_1, .ref s14_1, .int 0, .ref s15_1, .ref s16_1, .ref s17_1, .ref s18_1])) g0 = .inr (3, [.ref s1_1, .ref s2_1, .ref s3_1, .ref s4_1, .ref s5_1, .ref s6_1, .ref s7_1, .int pa_36, .int lm_36, .ref s8_1, .ref s9_1, .ref s10_1, .int z_69, .ref s11_1, .int nm_36, .ref s12_1, .ref s13_1, .ref s14_1, .int 0, .ref s15_1, .ref s16_1, .ref s17_1, .ref s18_1]) := va_up_self _ _ _
                                have eq_73 := (va_up_ne f_62 (.inr (3, [.ref s1_1, .ref s2_1, .ref s3_1, .ref s4_1, .ref s5_1, .ref s6_1, .ref s7_1, .int pa_36, .int lm_36, .ref s8_1, .ref s9_1, .ref s10_1, .int z_69, .ref s11_1, .int nm_36, .ref s12_1, .ref s13_1, .ref s14_1, .int 0, .ref s15_1, .ref s16_1, .ref s17_1, .ref s18_1])) (isr_ne fs2_1 hg0 (by decide))).trans eq_64
                                have eq_74 := (va_up_ne f_62 (.inr (3, [.ref s1_1, .ref s2_1, .ref s3_1, .ref s4_1, .ref s5_1, .ref s6_1, .ref s7_1, .int pa_36, .int lm_36, .ref s8_1, .ref s9_1, .ref s10_1, .int z_69, .ref s11_1, .int nm_36, .ref s12_1, .ref s13_1, .ref s14_1, .int 0, .ref s15_1, .ref s16_1, .ref s17_1, .ref s18_1])) (isr_ne fs3_1 hg0 (by decide))).trans eq_65
                                have eq_75 := (va_up_ne f_62 (.inr (3, [.ref s1_1, .ref s2_1, .ref s3_1, .ref s4_1, .ref s5_1, .ref s6_1, .ref s7_1, .int pa_36, .int lm_36, .ref s8_1, .ref s9_1, .ref s10_1, .int z_69, .ref s11_1, .int nm_36, .ref s12_1, .ref s13_1, .ref s14_1, .int 0, .ref s15_1, .ref s16_1, .ref s17_1, .ref s18_1])) (isr_ne fs11_1 hg0 (by decide))).trans es_f_62
                                have hfr := fr_up (S := (sK [10, 21, 22, 23, 24])) (e := .inr (3, [.ref s1_1, .ref s2_1, .ref s3_1, .ref s4_1, .ref s5_1, .ref s6_1, .ref s7_1, .int pa_36, .int lm_36, .ref s8_1, .ref s9_1, .ref s10_1, .int z_69, .ref s11_1, .int nm_36, .ref s12_1, .ref s13_1, .ref s14_1, .int 0, .ref s15_1, .ref s16_1, .ref s17_1, .ref s18_1])) hfr hg0 (by decide)
                                have hXL := XL.up (e := .inr (3, [.ref s1_1, .ref s2_1, .ref s3_1, .ref s4_1, .ref s5_1, .ref s6_1, .ref s7_1, .int pa_36, .int lm_36, .ref s8_1, .ref s9_1, .ref s10_1, .int z_69, .ref s11_1, .int nm_36, .ref s12_1, .ref s13_1, .ref s14_1, .int 0, .ref s15_1, .ref s16_1, .ref s17_1, .ref s18_1])) hXL hg0 (by decide) (by decide)
                                generalize va_up f_62 g0 (.inr (3, [.ref s1_1, .ref s2_1, .ref s3_1, .ref s4_1, .ref s5_1, .ref s6_1, .ref s7_1, .int pa_36, .int lm_36, .ref s8_1, .ref s9_1, .ref s10_1, .int z_69, .ref s11_1, .int nm_36, .ref s12_1, .ref s13_1, .ref s14_1, .int 0, .ref s15_1, .ref s16_1, .ref s17_1, .ref s18_1])) = f_72 at hP hD hPI es_f_72 eq_73 eq_74 eq_75 hfr hXL
                                obtain ⟨i_76, ei_76⟩ : ∃ y : Int32, y = i4 + 1 := ⟨_, rfl⟩
                                refine lv_iinc (v := i_76) (lv' := [(4, .int i_76), (5, .int z_44), (3, .int z_31), (2, .int i2), (0, .ref g0), (1, .int o0)]) hx hb dX3_find_188 hl (k := 1) rfl (by rw [ei_76]; rfl) (by decide) rfl (fun ls hl => ?_)
                                have ki_76 := inc_toInt ei_76 (by omega)
                                refine lv_goto (tgt := 50) hx hb dX3_find_191 (by decide) ?_
                                exact ih_50 i_76 f_72 _ _ _  (by omega) (by omega) ⟨hfr, hXL⟩ hPI hP hD hS (lv_sub hl [0, 2, 3, 4, 5] rfl)
                              · have c_68 := mt Int32.le_iff_toInt_le.mpr c_68
                                refine lv_iconst (v := 1) hx hb dX3_find_179 (by decide) ?_
                                refine lv_goto (tgt := 184) hx hb dX3_find_180 (by decide) ?_
                                refine lv_iadd hx hb dX3_find_184 ?_
                                refine lv_topi (fun z_77 ez_77 => ?_)
                                have kz_77 := add_toInt ez_77 (by omega) (by omega)
                                obtain ⟨k_78, hk_78⟩ := va_plg hg0.1 eq_63
                                have hD9 := hD
                                have rg_79 : 0 ≤ Int32.toInt z_77 ∧ Int32.toInt z_77 ≤ 24 := by constructor <;> omega
                                refine va_put (D := (dC, dI)) (ci := 3) (v := .int z_77) (ty := .int) (C := RX3) (T := TX3) (N := 23) hx hb hts iX3_ tyX3 tyX3_ok nmX3 hown hK hP hD hS k_78 hk_78 rfl 12 (by decide) (hts (.fieldLink RX3 167 "FieldLeavesModel" "foundMany" "I") (by decide +kernel)) (fun _ h9 => h9) rfl (by decide +kernel) rfl rfl (Nat.le_of_ble_eq_true rfl) dX3_find_185 (fun H locs hP hD hS => ?_)
                                have hP : va_P (dC, dI) vwCl (va_pl L (va_up f_62 g0 (.inr (3, [.ref s1_1, .ref s2_1, .ref s3_1, .ref s4_1, .ref s5_1, .ref s6_1, .ref s7_1, .int pa_36, .int lm_36, .ref s8_1, .ref s9_1, .ref s10_1, .int z_77, .ref s11_1, .int nm_36, .ref s12_1, .ref s13_1, .ref s14_1, .int 0, .ref s15_1, .ref s16_1, .ref s17_1, .ref s18_1])))) H := by rw [← va_pls hD9 hg0.1 hk_78 _]; exact hP
                                have hD : va_D A (va_pl L (va_up f_62 g0 (.inr (3, [.ref s1_1, .ref s2_1, .ref s3_1, .ref s4_1, .ref s5_1, .ref s6_1, .ref s7_1, .int pa_36, .int lm_36, .ref s8_1, .ref s9_1, .ref s10_1, .int z_77, .ref s11_1, .int nm_36, .ref s12_1, .ref s13_1, .ref s14_1, .int 0, .ref s15_1, .ref s16_1, .ref s17_1, .ref s18_1])))) := by rw [← va_pls hD9 hg0.1 hk_78 _]; exact hD
                                have hPI := hPI.put (e := .inr (3, [.ref s1_1, .ref s2_1, .ref s3_1, .ref s4_1, .ref s5_1, .ref s6_1, .ref s7_1, .int pa_36, .int lm_36, .ref s8_1, .ref s9_1, .ref s10_1, .int z_77, .ref s11_1, .int nm_36, .ref s12_1, .ref s13_1, .ref s14_1, .int 0, .ref s15_1, .ref s16_1, .ref s17_1, .ref s18_1])) hg0 ⟨s1_1, s2_1, s3_1, s4_1, s5_1, s6_1, s7_1, pa_36, lm_36, s8_1, s9_1, s10_1, z_77, s11_1, nm_36, s12_1, s13_1, s14_1, 0, s15_1, s16_1, s17_1, s18_1, rfl, fs1_1, fs2_1, fs3_1, fs4_1, fs5_1, fs6_1, fs7_1, flm_36, fs8_1, fs9_1, fs10_1, rg_79, fs11_1, fnm_36, fs12_1, fs13_1, fs14_1, (Or.inr rfl), fs15_1, fs16_1, fs17_1, fs18_1⟩
                                have es_f_80 : va_up f_62 g0 (.inr (3, [.ref s1_1, .ref s2_1, .ref s3_1, .ref s4_1, .ref s5_1, .ref s6_1, .ref s7_1, .int pa_36, .int lm_36, .ref s8_1, .ref s9_1, .ref s10_1, .int z_77, .ref s11_1, .int nm_36, .ref s12_1, .ref s13_1, .ref s14_1, .int 0, .ref s15_1, .ref s16_1, .ref s17_1, .ref s18_1])) g0 = .inr (3, [.ref s1_1, .ref s2_1, .ref s3_1, .ref s4_1, .ref s5_1, .ref s6_1, .ref s7_1, .int pa_36, .int lm_36, .ref s8_1, .ref s9_1, .ref s10_1, .int z_77, .ref s11_1, .int nm_36, .ref s12_1, .ref s13_1, .ref s14_1, .int 0, .ref s15_1, .ref s16_1, .ref s17_1, .ref s18_1]) := va_up_self _ _ _
                                have eq_81 := (va_up_ne f_62 (.inr (3, [.ref s1_1, .ref s2_1, .ref s3_1, .ref s4_1, .ref s5_1, .ref s6_1, .ref s7_1, .int pa_36, .int lm_36, .ref s8_1, .ref s9_1, .ref s10_1, .int z_77, .ref s11_1, .int nm_36, .ref s12_1, .ref s13_1, .ref s14_1, .int 0, .ref s15_1, .ref s16_1, .ref s17_1, .ref s18_1])) (isr_ne fs2_1 hg0 (by decide))).trans eq_64
                                have eq_82 := (va_up_ne f_62 (.inr (3, [.ref s1_1, .ref s2_1, .ref s3_1, .ref s4_1, .ref s5_1, .ref s6_1, .ref s7_1, .int pa_36, .int lm_36, .ref s8_1, .ref s9_1, .ref s10_1, .int z_77, .ref s11_1, .int nm_36, .ref s12_1, .ref s13_1, .ref s14_1, .int 0, .ref s15_1, .ref s16_1, .ref s17_1, .ref s18_1])) (isr_ne fs3_1 hg0 (by decide))).trans eq_65
                                have eq_83 := (va_up_ne f_62 (.inr (3, [.ref s1_1, .ref s2_1, .ref s3_1, .ref s4_1, .ref s5_1, .ref s6_1, .ref s7_1, .int pa_36, .int lm_36, .ref s8_1, .ref s9_1, .ref s10_1, .int z_77, .ref s11_1, .int nm_36, .ref s12_1, .ref s13_1, .ref s14_1, .int 0, .ref s15_1, .ref s16_1, .ref s17_1, .ref s18_1])) (isr_ne fs11_1 hg0 (by decide))).trans es_f_62
                                have hfr := fr_up (S := (sK [10, 21, 22, 23, 24])) (e := .inr (3, [.ref s1_1, .ref s2_1, .ref s3_1, .ref s4_1, .ref s5_1, .ref s6_1, .ref s7_1, .int pa_36, .int lm_36, .ref s8_1, .ref s9_1, .ref s10_1, .int z_77, .ref s11_1, .int nm_36, .ref s12_1, .ref s13_1, .ref s14_1, .int 0, .ref s15_1, .ref s16_1, .ref s17_1, .ref s18_1])) hfr hg0 (by decide)
                                have hXL := XL.up (e := .inr (3, [.ref s1_1, .ref s2_1, .ref s3_1, .ref s4_1, .ref s5_1, .ref s6_1, .ref s7_1, .int pa_36, .int lm_36, .ref s8_1, .ref s9_1, .ref s10_1, .int z_77, .ref s11_1, .int nm_36, .ref s12_1, .ref s13_1, .ref s14_1, .int 0, .ref s15_1, .ref s16_1, .ref s17_1, .ref s18_1])) hXL hg0 (by decide) (by decide)
                                generalize va_up f_62 g0 (.inr (3, [.ref s1_1, .ref s2_1, .ref s3_1, .ref s4_1, .ref s5_1, .ref s6_1, .ref s7_1, .int pa_36, .int lm_36, .ref s8_1, .ref s9_1, .ref s10_1, .int z_77, .ref s11_1, .int nm_36, .ref s12_1, .ref s13_1, .ref s14_1, .int 0, .ref s15_1, .ref s16_1, .ref s17_1, .ref s18_1])) = f_80 at hP hD hPI es_f_80 eq_81 eq_82 eq_83 hfr hXL
                                obtain ⟨i_84, ei_84⟩ : ∃ y : Int32, y = i4 + 1 := ⟨_, rfl⟩
                                refine lv_iinc (v := i_84) (lv' := [(4, .int i_84), (5, .int z_44), (3, .int z_31), (2, .int i2), (0, .ref g0), (1, .int o0)]) hx hb dX3_find_188 hl (k := 1) rfl (by rw [ei_84]; rfl) (by decide) rfl (fun ls hl => ?_)
                                have ki_84 := inc_toInt ei_84 (by omega)
                                refine lv_goto (tgt := 50) hx hb dX3_find_191 (by decide) ?_
                                exact ih_50 i_84 f_80 _ _ _  (by omega) (by omega) ⟨hfr, hXL⟩ hPI hP hD hS (lv_sub hl [0, 2, 3, 4, 5] rfl)
                            · have c_60 := mt Int32.le_iff_toInt_le.mpr c_60
                              refine lv_aload_n hx hb dX3_find_153 rfl (lv_at hl 4 rfl) ?_
                              obtain ⟨k_85, hk_85⟩ := va_plg hg0.1 es_f_55
                              refine va_get (D := (dC, dI)) (ci := 3) (v := .int fm_36) (C := RX3) (T := TX3) (N := 23) hx hb hts iX3_ hown hK hP k_85 hk_85 rfl 12 (by decide) (hts (.fieldLink RX3 167 "FieldLeavesModel" "foundMany" "I") (by decide +kernel)) (fun _ h9 => h9) rfl dX3_find_154 ?_
                              refine lv_goto (tgt := 162) hx hb dX3_find_157 (by decide) ?_
                              refine lv_iload hx hb dX3_find_162 (lv_at hl 0 rfl) ?_
                              obtain ⟨g_86, e_86, fg_86⟩ := hPI.a21 fs11_1
                              obtain ⟨k_86, hk_86⟩ := va_plg fs11_1.1 e_86
                              have h_86 : vp_in fm_36 25 := (vp_in_iff.mpr (by constructor <;> omega))
                              have fw_86 := updS (P := fun v => 0 ≤ v.toInt ∧ v.toInt < 6400) (k := Int32.toNatClampNeg fm_36) (v := z_44) fg_86 (by omega)
                              have hD9 := hD
                              refine va_iast hx hb hK hP hD hS k_86 0 hk_86 rfl h_86 dX3_find_164 (fun H locs hP hD hS => ?_)
                              have hP : va_P (dC, dI) vwCl (va_pl L (va_up f_55 s11_1 (.inl (kI, 25, .inl (upd g_86 (Int32.toNatClampNeg fm_36) z_44))))) H := by rw [← va_pls hD9 fs11_1.1 hk_86 _]; exact hP
                              have hD : va_D A (va_pl L (va_up f_55 s11_1 (.inl (kI, 25, .inl (upd g_86 (Int32.toNatClampNeg fm_36) z_44))))) := by rw [← va_pls hD9 fs11_1.1 hk_86 _]; exact hD
                              have hPI := hPI.put (e := .inl (kI, 25, .inl (upd g_86 (Int32.toNatClampNeg fm_36) z_44))) fs11_1 ⟨_, rfl, fw_86⟩
                              have es_f_87 : va_up f_55 s11_1 (.inl (kI, 25, .inl (upd g_86 (Int32.toNatClampNeg fm_36) z_44))) s11_1 = .inl (kI, 25, .inl (upd g_86 (Int32.toNatClampNeg fm_36) z_44)) := va_up_self _ _ _
                              have eq_88 := (va_up_ne f_55 (.inl (kI, 25, .inl (upd g_86 (Int32.toNatClampNeg fm_36) z_44))) (isr_ne hg0 fs11_1 (by decide))).trans es_f_55
                              have eq_89 := (va_up_ne f_55 (.inl (kI, 25, .inl (upd g_86 (Int32.toNatClampNeg fm_36) z_44))) (isr_ne fs2_1 fs11_1 (by decide))).trans eq_56
                              have eq_90 := (va_up_ne f_55 (.inl (kI, 25, .inl (upd g_86 (Int32.toNatClampNeg fm_36) z_44))) (isr_ne fs3_1 fs11_1 (by decide))).trans eq_57
                              have hfr := fr_up (S := (sK [10, 21, 22, 23, 24])) (e := .inl (kI, 25, .inl (upd g_86 (Int32.toNatClampNeg fm_36) z_44))) hfr fs11_1 (by decide)
                              have hXL := XL.up (e := .inl (kI, 25, .inl (upd g_86 (Int32.toNatClampNeg fm_36) z_44))) hXL fs11_1 (by decide) (by decide)
                              generalize va_up f_55 s11_1 (.inl (kI, 25, .inl (upd g_86 (Int32.toNatClampNeg fm_36) z_44))) = f_87 at hP hD hPI es_f_87 eq_88 eq_89 eq_90 hfr hXL
                              refine lv_aload_n hx hb dX3_find_165 rfl (lv_at hl 4 rfl) ?_
                              refine lv_dup hx hb dX3_find_166 rfl ?_
                              obtain ⟨k_91, hk_91⟩ := va_plg hg0.1 eq_88
                              refine va_get (D := (dC, dI)) (ci := 3) (v := .int fm_36) (C := RX3) (T := TX3) (N := 23) hx hb hts iX3_ hown hK hP k_91 hk_91 rfl 12 (by decide) (hts (.fieldLink RX3 167 "FieldLeavesModel" "foundMany" "I") (by decide +kernel)) (fun _ h9 => h9) rfl dX3_find_167 ?_
                              refine lv_aload_n hx hb dX3_find_170 rfl (lv_at hl 4 rfl) ?_
                              obtain ⟨k_92, hk_92⟩ := va_plg hg0.1 eq_88
                              refine va_get (D := (dC, dI)) (ci := 3) (v := .int fm_36) (C := RX3) (T := TX3) (N := 23) hx hb hts iX3_ hown hK hP k_92 hk_92 rfl 12 (by decide) (hts (.fieldLink RX3 167 "FieldLeavesModel" "foundMany" "I") (by decide +kernel)) (fun _ h9 => h9) rfl dX3_find_171 ?_
                              refine lv_bipush (v := 24) hx hb dX3_find_174 (by decide) ?_
                              refine lv_icmp_ge (tgt := 183) hx hb dX3_find_176 (by decide) (fun c_93 => ?_) (fun c_93 => ?_)
                              · have c_93 := Int32.le_iff_toInt_le.mp c_93
                                refine lv_iconst (v := 0) hx hb dX3_find_183 (by decide) ?_
                                refine lv_iadd hx hb dX3_find_184 ?_
                                refine lv_topi (fun z_94 ez_94 => ?_)
                                have kz_94 := add_toInt ez_94 (by omega) (by omega)
                                obtain ⟨k_95, hk_95⟩ := va_plg hg0.1 eq_88
                                have hD9 := hD
                                have rg_96 : 0 ≤ Int32.toInt z_94 ∧ Int32.toInt z_94 ≤ 24 := by constructor <;> omega
                                refine va_put (D := (dC, dI)) (ci := 3) (v := .int z_94) (ty := .int) (C := RX3) (T := TX3) (N := 23) hx hb hts iX3_ tyX3 tyX3_ok nmX3 hown hK hP hD hS k_95 hk_95 rfl 12 (by decide) (hts (.fieldLink RX3 167 "FieldLeavesModel" "foundMany" "I") (by decide +kernel)) (fun _ h9 => h9) rfl (by decide +kernel) rfl rfl (Nat.le_of_ble_eq_true rfl) dX3_find_185 (fun H locs hP hD hS => ?_)
                                have hP : va_P (dC, dI) vwCl (va_pl L (va_up f_87 g0 (.inr (3, [.ref s1_1, .ref s2_1, .ref s3_1, .ref s4_1, .ref s5_1, .ref s6_1, .ref s7_1, .int pa_36, .int lm_36, .ref s8_1, .ref s9_1, .ref s10_1, .int z_94, .ref s11_1, .int nm_36, .ref s12_1, .ref s13_1, .ref s14_1, .int 0, .ref s15_1, .ref s16_1, .ref s17_1, .ref s18_1])))) H := by rw [← va_pls hD9 hg0.1 hk_95 _]; exact hP
                                have hD : va_D A (va_pl L (va_up f_87 g0 (.inr (3, [.ref s1_1, .ref s2_1, .ref s3_1, .ref s4_1, .ref s5_1, .ref s6_1, .ref s7_1, .int pa_36, .int lm_36, .ref s8_1, .ref s9_1, .ref s10_1, .int z_94, .ref s11_1, .int nm_36, .ref s12_1, .ref s13_1, .ref s14_1, .int 0, .ref s15_1, .ref s16_1, .ref s17_1, .ref s18_1])))) := by rw [← va_pls hD9 hg0.1 hk_95 _]; exact hD
                                have hPI := hPI.put (e := .inr (3, [.ref s1_1, .ref s2_1, .ref s3_1, .ref s4_1, .ref s5_1, .ref s6_1, .ref s7_1, .int pa_36, .int lm_36, .ref s8_1, .ref s9_1, .ref s10_1, .int z_94, .ref s11_1, .int nm_36, .ref s12_1, .ref s13_1, .ref s14_1, .int 0, .ref s15_1, .ref s16_1, .ref s17_1, .ref s18_1])) hg0 ⟨s1_1, s2_1, s3_1, s4_1, s5_1, s6_1, s7_1, pa_36, lm_36, s8_1, s9_1, s10_1, z_94, s11_1, nm_36, s12_1, s13_1, s14_1, 0, s15_1, s16_1, s17_1, s18_1, rfl, fs1_1, fs2_1, fs3_1, fs4_1, fs5_1, fs6_1, fs7_1, flm_36, fs8_1, fs9_1, fs10_1, rg_96, fs11_1, fnm_36, fs12_1, fs13_1, fs14_1, (Or.inr rfl), fs15_1, fs16_1, fs17_1, fs18_1⟩
                                have es_f_97 : va_up f_87 g0 (.inr (3, [.ref s1_1, .ref s2_1, .ref s3_1, .ref s4_1, .ref s5_1, .ref s6_1, .ref s7_1, .int pa_36, .int lm_36, .ref s8_1, .ref s9_1, .ref s10_1, .int z_94, .ref s11_1, .int nm_36, .ref s12_1, .ref s13_1, .ref s14_1, .int 0, .ref s15_1, .ref s16_1, .ref s17_1, .ref s18_1])) g0 = .inr (3, [.ref s1_1, .ref s2_1, .ref s3_1, .ref s4_1, .ref s5_1, .ref s6_1, .ref s7_1, .int pa_36, .int lm_36, .ref s8_1, .ref s9_1, .ref s10_1, .int z_94, .ref s11_1, .int nm_36, .ref s12_1, .ref s13_1, .ref s14_1, .int 0, .ref s15_1, .ref s16_1, .ref s17_1, .ref s18_1]) := va_up_self _ _ _
                                have eq_98 := (va_up_ne f_87 (.inr (3, [.ref s1_1, .ref s2_1, .ref s3_1, .ref s4_1, .ref s5_1, .ref s6_1, .ref s7_1, .int pa_36, .int lm_36, .ref s8_1, .ref s9_1, .ref s10_1, .int z_94, .ref s11_1, .int nm_36, .ref s12_1, .ref s13_1, .ref s14_1, .int 0, .ref s15_1, .ref s16_1, .ref s17_1, .ref s18_1])) (isr_ne fs2_1 hg0 (by decide))).trans eq_89
                                have eq_99 := (va_up_ne f_87 (.inr (3, [.ref s1_1, .ref s2_1, .ref s3_1, .ref s4_1, .ref s5_1, .ref s6_1, .ref s7_1, .int pa_36, .int lm_36, .ref s8_1, .ref s9_1, .ref s10_1, .int z_94, .ref s11_1, .int nm_36, .ref s12_1, .ref s13_1, .ref s14_1, .int 0, .ref s15_1, .ref s16_1, .ref s17_1, .ref s18_1])) (isr_ne fs3_1 hg0 (by decide))).trans eq_90
                                have eq_100 := (va_up_ne f_87 (.inr (3, [.ref s1_1, .ref s2_1, .ref s3_1, .ref s4_1, .ref s5_1, .ref s6_1, .ref s7_1, .int pa_36, .int lm_36, .ref s8_1, .ref s9_1, .ref s10_1, .int z_94, .ref s11_1, .int nm_36, .ref s12_1, .ref s13_1, .ref s14_1, .int 0, .ref s15_1, .ref s16_1, .ref s17_1, .ref s18_1])) (isr_ne fs11_1 hg0 (by decide))).trans es_f_87
                                have hfr := fr_up (S := (sK [10, 21, 22, 23, 24])) (e := .inr (3, [.ref s1_1, .ref s2_1, .ref s3_1, .ref s4_1, .ref s5_1, .ref s6_1, .ref s7_1, .int pa_36, .int lm_36, .ref s8_1, .ref s9_1, .ref s10_1, .int z_94, .ref s11_1, .int nm_36, .ref s12_1, .ref s13_1, .ref s14_1, .int 0, .ref s15_1, .ref s16_1, .ref s17_1, .ref s18_1])) hfr hg0 (by decide)
                                have hXL := XL.up (e := .inr (3, [.ref s1_1, .ref s2_1, .ref s3_1, .ref s4_1, .ref s5_1, .ref s6_1, .ref s7_1, .int pa_36, .int lm_36, .ref s8_1, .ref s9_1, .ref s10_1, .int z_94, .ref s11_1, .int nm_36, .ref s12_1, .ref s13_1, .ref s14_1, .int 0, .ref s15_1, .ref s16_1, .ref s17_1, .ref s18_1])) hXL hg0 (by decide) (by decide)
                                generalize va_up f_87 g0 (.inr (3, [.ref s1_1, .ref s2_1, .ref s3_1, .ref s4_1, .ref s5_1, .ref s6_1, .ref s7_1, .int pa_36, .int lm_36, .ref s8_1, .ref s9_1, .ref s10_1, .int z_94, .ref s11_1, .int nm_36, .ref s12_1, .ref s13_1, .ref s14_1, .int 0, .ref s15_1, .ref s16_1, .ref s17_1, .ref s18_1])) = f_97 at hP hD hPI es_f_97 eq_98 eq_99 eq_100 hfr hXL
                                obtain ⟨i_101, ei_101⟩ : ∃ y : Int32, y = i4 + 1 := ⟨_, rfl⟩
                                refine lv_iinc (v := i_101) (lv' := [(4, .int i_101), (5, .int z_44), (3, .int z_31), (2, .int i2), (0, .ref g0), (1, .int o0)]) hx hb dX3_find_188 hl (k := 1) rfl (by rw [ei_101]; rfl) (by decide) rfl (fun ls hl => ?_)
                                have ki_101 := inc_toInt ei_101 (by omega)
                                refine lv_goto (tgt := 50) hx hb dX3_find_191 (by decide) ?_
                                exact ih_50 i_101 f_97 _ _ _  (by omega) (by omega) ⟨hfr, hXL⟩ hPI hP hD hS (lv_sub hl [0, 2, 3, 4, 5] rfl)
                              · have c_93 := mt Int32.le_iff_toInt_le.mpr c_93
                                refine lv_iconst (v := 1) hx hb dX3_find_179 (by decide) ?_
                                refine lv_goto (tgt := 184) hx hb dX3_find_180 (by decide) ?_
                                refine lv_iadd hx hb dX3_find_184 ?_
                                refine lv_topi (fun z_102 ez_102 => ?_)
                                have kz_102 := add_toInt ez_102 (by omega) (by omega)
                                obtain ⟨k_103, hk_103⟩ := va_plg hg0.1 eq_88
                                have hD9 := hD
                                have rg_104 : 0 ≤ Int32.toInt z_102 ∧ Int32.toInt z_102 ≤ 24 := by constructor <;> omega
                                refine va_put (D := (dC, dI)) (ci := 3) (v := .int z_102) (ty := .int) (C := RX3) (T := TX3) (N := 23) hx hb hts iX3_ tyX3 tyX3_ok nmX3 hown hK hP hD hS k_103 hk_103 rfl 12 (by decide) (hts (.fieldLink RX3 167 "FieldLeavesModel" "foundMany" "I") (by decide +kernel)) (fun _ h9 => h9) rfl (by decide +kernel) rfl rfl (Nat.le_of_ble_eq_true rfl) dX3_find_185 (fun H locs hP hD hS => ?_)
                                have hP : va_P (dC, dI) vwCl (va_pl L (va_up f_87 g0 (.inr (3, [.ref s1_1, .ref s2_1, .ref s3_1, .ref s4_1, .ref s5_1, .ref s6_1, .ref s7_1, .int pa_36, .int lm_36, .ref s8_1, .ref s9_1, .ref s10_1, .int z_102, .ref s11_1, .int nm_36, .ref s12_1, .ref s13_1, .ref s14_1, .int 0, .ref s15_1, .ref s16_1, .ref s17_1, .ref s18_1])))) H := by rw [← va_pls hD9 hg0.1 hk_103 _]; exact hP
                                have hD : va_D A (va_pl L (va_up f_87 g0 (.inr (3, [.ref s1_1, .ref s2_1, .ref s3_1, .ref s4_1, .ref s5_1, .ref s6_1, .ref s7_1, .int pa_36, .int lm_36, .ref s8_1, .ref s9_1, .ref s10_1, .int z_102, .ref s11_1, .int nm_36, .ref s12_1, .ref s13_1, .ref s14_1, .int 0, .ref s15_1, .ref s16_1, .ref s17_1, .ref s18_1])))) := by rw [← va_pls hD9 hg0.1 hk_103 _]; exact hD
                                have hPI := hPI.put (e := .inr (3, [.ref s1_1, .ref s2_1, .ref s3_1, .ref s4_1, .ref s5_1, .ref s6_1, .ref s7_1, .int pa_36, .int lm_36, .ref s8_1, .ref s9_1, .ref s10_1, .int z_102, .ref s11_1, .int nm_36, .ref s12_1, .ref s13_1, .ref s14_1, .int 0, .ref s15_1, .ref s16_1, .ref s17_1, .ref s18_1])) hg0 ⟨s1_1, s2_1, s3_1, s4_1, s5_1, s6_1, s7_1, pa_36, lm_36, s8_1, s9_1, s10_1, z_102, s11_1, nm_36, s12_1, s13_1, s14_1, 0, s15_1, s16_1, s17_1, s18_1, rfl, fs1_1, fs2_1, fs3_1, fs4_1, fs5_1, fs6_1, fs7_1, flm_36, fs8_1, fs9_1, fs10_1, rg_104, fs11_1, fnm_36, fs12_1, fs13_1, fs14_1, (Or.inr rfl), fs15_1, fs16_1, fs17_1, fs18_1⟩
                                have es_f_105 : va_up f_87 g0 (.inr (3, [.ref s1_1, .ref s2_1, .ref s3_1, .ref s4_1, .ref s5_1, .ref s6_1, .ref s7_1, .int pa_36, .int lm_36, .ref s8_1, .ref s9_1, .ref s10_1, .int z_102, .ref s11_1, .int nm_36, .ref s12_1, .ref s13_1, .ref s14_1, .int 0, .ref s15_1, .ref s16_1, .ref s17_1, .ref s18_1])) g0 = .inr (3, [.ref s1_1, .ref s2_1, .ref s3_1, .ref s4_1, .ref s5_1, .ref s6_1, .ref s7_1, .int pa_36, .int lm_36, .ref s8_1, .ref s9_1, .ref s10_1, .int z_102, .ref s11_1, .int nm_36, .ref s12_1, .ref s13_1, .ref s14_1, .int 0, .ref s15_1, .ref s16_1, .ref s17_1, .ref s18_1]) := va_up_self _ _ _
                                have eq_106 := (va_up_ne f_87 (.inr (3, [.ref s1_1, .ref s2_1, .ref s3_1, .ref s4_1, .ref s5_1, .ref s6_1, .ref s7_1, .int pa_36, .int lm_36, .ref s8_1, .ref s9_1, .ref s10_1, .int z_102, .ref s11_1, .int nm_36, .ref s12_1, .ref s13_1, .ref s14_1, .int 0, .ref s15_1, .ref s16_1, .ref s17_1, .ref s18_1])) (isr_ne fs2_1 hg0 (by decide))).trans eq_89
                                have eq_107 := (va_up_ne f_87 (.inr (3, [.ref s1_1, .ref s2_1, .ref s3_1, .ref s4_1, .ref s5_1, .ref s6_1, .ref s7_1, .int pa_36, .int lm_36, .ref s8_1, .ref s9_1, .ref s10_1, .int z_102, .ref s11_1, .int nm_36, .ref s12_1, .ref s13_1, .ref s14_1, .int 0, .ref s15_1, .ref s16_1, .ref s17_1, .ref s18_1])) (isr_ne fs3_1 hg0 (by decide))).trans eq_90
                                have eq_108 := (va_up_ne f_87 (.inr (3, [.ref s1_1, .ref s2_1, .ref s3_1, .ref s4_1, .ref s5_1, .ref s6_1, .ref s7_1, .int pa_36, .int lm_36, .ref s8_1, .ref s9_1, .ref s10_1, .int z_102, .ref s11_1, .int nm_36, .ref s12_1, .ref s13_1, .ref s14_1, .int 0, .ref s15_1, .ref s16_1, .ref s17_1, .ref s18_1])) (isr_ne fs11_1 hg0 (by decide))).trans es_f_87
                                have hfr := fr_up (S := (sK [10, 21, 22, 23, 24])) (e := .inr (3, [.ref s1_1, .ref s2_1, .ref s3_1, .ref s4_1, .ref s5_1, .ref s6_1, .ref s7_1, .int pa_36, .int lm_36, .ref s8_1, .ref s9_1, .ref s10_1, .int z_102, .ref s11_1, .int nm_36, .ref s12_1, .ref s13_1, .ref s14_1, .int 0, .ref s15_1, .ref s16_1, .ref s17_1, .ref s18_1])) hfr hg0 (by decide)
                                have hXL := XL.up (e := .inr (3, [.ref s1_1, .ref s2_1, .ref s3_1, .ref s4_1, .ref s5_1, .ref s6_1, .ref s7_1, .int pa_36, .int lm_36, .ref s8_1, .ref s9_1, .ref s10_1, .int z_102, .ref s11_1, .int nm_36, .ref s12_1, .ref s13_1, .ref s14_1, .int 0, .ref s15_1, .ref s16_1, .ref s17_1, .ref s18_1])) hXL hg0 (by decide) (by decide)
                                generalize va_up f_87 g0 (.inr (3, [.ref s1_1, .ref s2_1, .ref s3_1, .ref s4_1, .ref s5_1, .ref s6_1, .ref s7_1, .int pa_36, .int lm_36, .ref s8_1, .ref s9_1, .ref s10_1, .int z_102, .ref s11_1, .int nm_36, .ref s12_1, .ref s13_1, .ref s14_1, .int 0, .ref s15_1, .ref s16_1, .ref s17_1, .ref s18_1])) = f_105 at hP hD hPI es_f_105 eq_106 eq_107 eq_108 hfr hXL
                                obtain ⟨i_109, ei_109⟩ : ∃ y : Int32, y = i4 + 1 := ⟨_, rfl⟩
                                refine lv_iinc (v := i_109) (lv' := [(4, .int i_109), (5, .int z_44), (3, .int z_31), (2, .int i2), (0, .ref g0), (1, .int o0)]) hx hb dX3_find_188 hl (k := 1) rfl (by rw [ei_109]; rfl) (by decide) rfl (fun ls hl => ?_)
                                have ki_109 := inc_toInt ei_109 (by omega)
                                refine lv_goto (tgt := 50) hx hb dX3_find_191 (by decide) ?_
                                exact ih_50 i_109 f_105 _ _ _  (by omega) (by omega) ⟨hfr, hXL⟩ hPI hP hD hS (lv_sub hl [0, 2, 3, 4, 5] rfl)
                          · have c_53 := mt Int32.le_iff_toInt_le.mpr c_53
                            refine lv_iconst (v := 1) hx hb dX3_find_132 (by decide) ?_
                            refine lv_goto (tgt := 137) hx hb dX3_find_133 (by decide) ?_
                            obtain ⟨k_110, hk_110⟩ := va_plg hg0.1 e_36
                            have hD9 := hD
                            refine va_put (D := (dC, dI)) (ci := 3) (v := .int 1) (ty := .boolean) (C := RX3) (T := TX3) (N := 23) hx hb hts iX3_ tyX3 tyX3_ok nmX3 hown hK hP hD hS k_110 hk_110 rfl 18 (by decide) (hts (.fieldLink RX3 163 "FieldLeavesModel" "isRoom" "Z") (by decide +kernel)) (fun _ h9 => h9) rfl (by decide +kernel) rfl rfl (Nat.le_of_ble_eq_true rfl) dX3_find_137 (fun H locs hP hD hS => ?_)
                            have hP : va_P (dC, dI) vwCl (va_pl L (va_up fl50 g0 (.inr (3, [.ref s1_1, .ref s2_1, .ref s3_1, .ref s4_1, .ref s5_1, .ref s6_1, .ref s7_1, .int pa_36, .int lm_36, .ref s8_1, .ref s9_1, .ref s10_1, .int fm_36, .ref s11_1, .int nm_36, .ref s12_1, .ref s13_1, .ref s14_1, .int 1, .ref s15_1, .ref s16_1, .ref s17_1, .ref s18_1])))) H := by rw [← va_pls hD9 hg0.1 hk_110 _]; exact hP
                            have hD : va_D A (va_pl L (va_up fl50 g0 (.inr (3, [.ref s1_1, .ref s2_1, .ref s3_1, .ref s4_1, .ref s5_1, .ref s6_1, .ref s7_1, .int pa_36, .int lm_36, .ref s8_1, .ref s9_1, .ref s10_1, .int fm_36, .ref s11_1, .int nm_36, .ref s12_1, .ref s13_1, .ref s14_1, .int 1, .ref s15_1, .ref s16_1, .ref s17_1, .ref s18_1])))) := by rw [← va_pls hD9 hg0.1 hk_110 _]; exact hD
                            have hPI := hPI.put (e := .inr (3, [.ref s1_1, .ref s2_1, .ref s3_1, .ref s4_1, .ref s5_1, .ref s6_1, .ref s7_1, .int pa_36, .int lm_36, .ref s8_1, .ref s9_1, .ref s10_1, .int fm_36, .ref s11_1, .int nm_36, .ref s12_1, .ref s13_1, .ref s14_1, .int 1, .ref s15_1, .ref s16_1, .ref s17_1, .ref s18_1])) hg0 ⟨s1_1, s2_1, s3_1, s4_1, s5_1, s6_1, s7_1, pa_36, lm_36, s8_1, s9_1, s10_1, fm_36, s11_1, nm_36, s12_1, s13_1, s14_1, 1, s15_1, s16_1, s17_1, s18_1, rfl, fs1_1, fs2_1, fs3_1, fs4_1, fs5_1, fs6_1, fs7_1, flm_36, fs8_1, fs9_1, fs10_1, ffm_36, fs11_1, fnm_36, fs12_1, fs13_1, fs14_1, (Or.inl rfl), fs15_1, fs16_1, fs17_1, fs18_1⟩
                            have es_f_111 : va_up fl50 g0 (.inr (3, [.ref s1_1, .ref s2_1, .ref s3_1, .ref s4_1, .ref s5_1, .ref s6_1, .ref s7_1, .int pa_36, .int lm_36, .ref s8_1, .ref s9_1, .ref s10_1, .int fm_36, .ref s11_1, .int nm_36, .ref s12_1, .ref s13_1, .ref s14_1, .int 1, .ref s15_1, .ref s16_1, .ref s17_1, .ref s18_1])) g0 = .inr (3, [.ref s1_1, .ref s2_1, .ref s3_1, .ref s4_1, .ref s5_1, .ref s6_1, .ref s7_1, .int pa_36, .int lm_36, .ref s8_1, .ref s9_1, .ref s10_1, .int fm_36, .ref s11_1, .int nm_36, .ref s12_1, .ref s13_1, .ref s14_1, .int 1, .ref s15_1, .ref s16_1, .ref s17_1, .ref s18_1]) := va_up_self _ _ _
                            have eq_112 := (va_up_ne fl50 (.inr (3, [.ref s1_1, .ref s2_1, .ref s3_1, .ref s4_1, .ref s5_1, .ref s6_1, .ref s7_1, .int pa_36, .int lm_36, .ref s8_1, .ref s9_1, .ref s10_1, .int fm_36, .ref s11_1, .int nm_36, .ref s12_1, .ref s13_1, .ref s14_1, .int 1, .ref s15_1, .ref s16_1, .ref s17_1, .ref s18_1])) (isr_ne fs2_1 hg0 (by decide))).trans e_37
                            have eq_113 := (va_up_ne fl50 (.inr (3, [.ref s1_1, .ref s2_1, .ref s3_1, .ref s4_1, .ref s5_1, .ref s6_1, .ref s7_1, .int pa_36, .int lm_36, .ref s8_1, .ref s9_1, .ref s10_1, .int fm_36, .ref s11_1, .int nm_36, .ref s12_1, .ref s13_1, .ref s14_1, .int 1, .ref s15_1, .ref s16_1, .ref s17_1, .ref s18_1])) (isr_ne fs3_1 hg0 (by decide))).trans e_43
                            have hfr := fr_up (S := (sK [10, 21, 22, 23, 24])) (e := .inr (3, [.ref s1_1, .ref s2_1, .ref s3_1, .ref s4_1, .ref s5_1, .ref s6_1, .ref s7_1, .int pa_36, .int lm_36, .ref s8_1, .ref s9_1, .ref s10_1, .int fm_36, .ref s11_1, .int nm_36, .ref s12_1, .ref s13_1, .ref s14_1, .int 1, .ref s15_1, .ref s16_1, .ref s17_1, .ref s18_1])) hfr hg0 (by decide)
                            have hXL := XL.up (e := .inr (3, [.ref s1_1, .ref s2_1, .ref s3_1, .ref s4_1, .ref s5_1, .ref s6_1, .ref s7_1, .int pa_36, .int lm_36, .ref s8_1, .ref s9_1, .ref s10_1, .int fm_36, .ref s11_1, .int nm_36, .ref s12_1, .ref s13_1, .ref s14_1, .int 1, .ref s15_1, .ref s16_1, .ref s17_1, .ref s18_1])) hXL hg0 (by decide) (by decide)
                            generalize va_up fl50 g0 (.inr (3, [.ref s1_1, .ref s2_1, .ref s3_1, .ref s4_1, .ref s5_1, .ref s6_1, .ref s7_1, .int pa_36, .int lm_36, .ref s8_1, .ref s9_1, .ref s10_1, .int fm_36, .ref s11_1, .int nm_36, .ref s12_1, .ref s13_1, .ref s14_1, .int 1, .ref s15_1, .ref s16_1, .ref s17_1, .ref s18_1])) = f_111 at hP hD hPI es_f_111 eq_112 eq_113 hfr hXL
                            refine lv_aload_n hx hb dX3_find_140 rfl (lv_at hl 4 rfl) ?_
                            obtain ⟨k_114, hk_114⟩ := va_plg hg0.1 es_f_111
                            refine va_get (D := (dC, dI)) (ci := 3) (v := .ref s11_1) (C := RX3) (T := TX3) (N := 23) hx hb hts iX3_ hown hK hP k_114 hk_114 rfl 13 (by decide) (hts (.fieldLink RX3 44 "FieldLeavesModel" "found" "[I") (by decide +kernel)) (fun _ h9 => h9) rfl dX3_find_141 ?_
                            refine lv_aload_n hx hb dX3_find_144 rfl (lv_at hl 4 rfl) ?_
                            obtain ⟨k_115, hk_115⟩ := va_plg hg0.1 es_f_111
                            refine va_get (D := (dC, dI)) (ci := 3) (v := .int fm_36) (C := RX3) (T := TX3) (N := 23) hx hb hts iX3_ hown hK hP k_115 hk_115 rfl 12 (by decide) (hts (.fieldLink RX3 167 "FieldLeavesModel" "foundMany" "I") (by decide +kernel)) (fun _ h9 => h9) rfl dX3_find_145 ?_
                            refine lv_bipush (v := 24) hx hb dX3_find_148 (by decide) ?_
                            refine lv_icmp_ge (tgt := 160) hx hb dX3_find_150 (by decide) (fun c_116 => ?_) (fun c_116 => ?_)
                            · have c_116 := Int32.le_iff_toInt_le.mp c_116
                              refine lv_bipush (v := 24) hx hb dX3_find_160 (by decide) ?_
                              refine lv_iload hx hb dX3_find_162 (lv_at hl 0 rfl) ?_
                              obtain ⟨g_117, e_117, fg_117⟩ := hPI.a21 fs11_1
                              obtain ⟨k_117, hk_117⟩ := va_plg fs11_1.1 e_117
                              have h_117 : vp_in 24 25 := (vp_in_iff.mpr (by decide))
                              have fw_117 := updS (P := fun v => 0 ≤ v.toInt ∧ v.toInt < 6400) (k := Int32.toNatClampNeg 24) (v := z_44) fg_117 (by omega)
                              have hD9 := hD
                              refine va_iast hx hb hK hP hD hS k_117 0 hk_117 rfl h_117 dX3_find_164 (fun H locs hP hD hS => ?_)
                              have hP : va_P (dC, dI) vwCl (va_pl L (va_up f_111 s11_1 (.inl (kI, 25, .inl (upd g_117 (Int32.toNatClampNeg 24) z_44))))) H := by rw [← va_pls hD9 fs11_1.1 hk_117 _]; exact hP
                              have hD : va_D A (va_pl L (va_up f_111 s11_1 (.inl (kI, 25, .inl (upd g_117 (Int32.toNatClampNeg 24) z_44))))) := by rw [← va_pls hD9 fs11_1.1 hk_117 _]; exact hD
                              have hPI := hPI.put (e := .inl (kI, 25, .inl (upd g_117 (Int32.toNatClampNeg 24) z_44))) fs11_1 ⟨_, rfl, fw_117⟩
                              have es_f_118 : va_up f_111 s11_1 (.inl (kI, 25, .inl (upd g_117 (Int32.toNatClampNeg 24) z_44))) s11_1 = .inl (kI, 25, .inl (upd g_117 (Int32.toNatClampNeg 24) z_44)) := va_up_self _ _ _
                              have eq_119 := (va_up_ne f_111 (.inl (kI, 25, .inl (upd g_117 (Int32.toNatClampNeg 24) z_44))) (isr_ne hg0 fs11_1 (by decide))).trans es_f_111
                              have eq_120 := (va_up_ne f_111 (.inl (kI, 25, .inl (upd g_117 (Int32.toNatClampNeg 24) z_44))) (isr_ne fs2_1 fs11_1 (by decide))).trans eq_112
                              have eq_121 := (va_up_ne f_111 (.inl (kI, 25, .inl (upd g_117 (Int32.toNatClampNeg 24) z_44))) (isr_ne fs3_1 fs11_1 (by decide))).trans eq_113
                              have hfr := fr_up (S := (sK [10, 21, 22, 23, 24])) (e := .inl (kI, 25, .inl (upd g_117 (Int32.toNatClampNeg 24) z_44))) hfr fs11_1 (by decide)
                              have hXL := XL.up (e := .inl (kI, 25, .inl (upd g_117 (Int32.toNatClampNeg 24) z_44))) hXL fs11_1 (by decide) (by decide)
                              generalize va_up f_111 s11_1 (.inl (kI, 25, .inl (upd g_117 (Int32.toNatClampNeg 24) z_44))) = f_118 at hP hD hPI es_f_118 eq_119 eq_120 eq_121 hfr hXL
                              refine lv_aload_n hx hb dX3_find_165 rfl (lv_at hl 4 rfl) ?_
                              refine lv_dup hx hb dX3_find_166 rfl ?_
                              obtain ⟨k_122, hk_122⟩ := va_plg hg0.1 eq_119
                              refine va_get (D := (dC, dI)) (ci := 3) (v := .int fm_36) (C := RX3) (T := TX3) (N := 23) hx hb hts iX3_ hown hK hP k_122 hk_122 rfl 12 (by decide) (hts (.fieldLink RX3 167 "FieldLeavesModel" "foundMany" "I") (by decide +kernel)) (fun _ h9 => h9) rfl dX3_find_167 ?_
                              refine lv_aload_n hx hb dX3_find_170 rfl (lv_at hl 4 rfl) ?_
                              obtain ⟨k_123, hk_123⟩ := va_plg hg0.1 eq_119
                              refine va_get (D := (dC, dI)) (ci := 3) (v := .int fm_36) (C := RX3) (T := TX3) (N := 23) hx hb hts iX3_ hown hK hP k_123 hk_123 rfl 12 (by decide) (hts (.fieldLink RX3 167 "FieldLeavesModel" "foundMany" "I") (by decide +kernel)) (fun _ h9 => h9) rfl dX3_find_171 ?_
                              refine lv_bipush (v := 24) hx hb dX3_find_174 (by decide) ?_
                              refine lv_icmp_ge (tgt := 183) hx hb dX3_find_176 (by decide) (fun c_124 => ?_) (fun c_124 => ?_)
                              · have c_124 := Int32.le_iff_toInt_le.mp c_124
                                refine lv_iconst (v := 0) hx hb dX3_find_183 (by decide) ?_
                                refine lv_iadd hx hb dX3_find_184 ?_
                                refine lv_topi (fun z_125 ez_125 => ?_)
                                have kz_125 := add_toInt ez_125 (by omega) (by omega)
                                obtain ⟨k_126, hk_126⟩ := va_plg hg0.1 eq_119
                                have hD9 := hD
                                have rg_127 : 0 ≤ Int32.toInt z_125 ∧ Int32.toInt z_125 ≤ 24 := by constructor <;> omega
                                refine va_put (D := (dC, dI)) (ci := 3) (v := .int z_125) (ty := .int) (C := RX3) (T := TX3) (N := 23) hx hb hts iX3_ tyX3 tyX3_ok nmX3 hown hK hP hD hS k_126 hk_126 rfl 12 (by decide) (hts (.fieldLink RX3 167 "FieldLeavesModel" "foundMany" "I") (by decide +kernel)) (fun _ h9 => h9) rfl (by decide +kernel) rfl rfl (Nat.le_of_ble_eq_true rfl) dX3_find_185 (fun H locs hP hD hS => ?_)
                                have hP : va_P (dC, dI) vwCl (va_pl L (va_up f_118 g0 (.inr (3, [.ref s1_1, .ref s2_1, .ref s3_1, .ref s4_1, .ref s5_1, .ref s6_1, .ref s7_1, .int pa_36, .int lm_36, .ref s8_1, .ref s9_1, .ref s10_1, .int z_125, .ref s11_1, .int nm_36, .ref s12_1, .ref s13_1, .ref s14_1, .int 1, .ref s15_1, .ref s16_1, .ref s17_1, .ref s18_1])))) H := by rw [← va_pls hD9 hg0.1 hk_126 _]; exact hP
                                have hD : va_D A (va_pl L (va_up f_118 g0 (.inr (3, [.ref s1_1, .ref s2_1, .ref s3_1, .ref s4_1, .ref s5_1, .ref s6_1, .ref s7_1, .int pa_36, .int lm_36, .ref s8_1, .ref s9_1, .ref s10_1, .int z_125, .ref s11_1, .int nm_36, .ref s12_1, .ref s13_1, .ref s14_1, .int 1, .ref s15_1, .ref s16_1, .ref s17_1, .ref s18_1])))) := by rw [← va_pls hD9 hg0.1 hk_126 _]; exact hD
                                have hPI := hPI.put (e := .inr (3, [.ref s1_1, .ref s2_1, .ref s3_1, .ref s4_1, .ref s5_1, .ref s6_1, .ref s7_1, .int pa_36, .int lm_36, .ref s8_1, .ref s9_1, .ref s10_1, .int z_125, .ref s11_1, .int nm_36, .ref s12_1, .ref s13_1, .ref s14_1, .int 1, .ref s15_1, .ref s16_1, .ref s17_1, .ref s18_1])) hg0 ⟨s1_1, s2_1, s3_1, s4_1, s5_1, s6_1, s7_1, pa_36, lm_36, s8_1, s9_1, s10_1, z_125, s11_1, nm_36, s12_1, s13_1, s14_1, 1, s15_1, s16_1, s17_1, s18_1, rfl, fs1_1, fs2_1, fs3_1, fs4_1, fs5_1, fs6_1, fs7_1, flm_36, fs8_1, fs9_1, fs10_1, rg_127, fs11_1, fnm_36, fs12_1, fs13_1, fs14_1, (Or.inl rfl), fs15_1, fs16_1, fs17_1, fs18_1⟩
                                have es_f_128 : va_up f_118 g0 (.inr (3, [.ref s1_1, .ref s2_1, .ref s3_1, .ref s4_1, .ref s5_1, .ref s6_1, .ref s7_1, .int pa_36, .int lm_36, .ref s8_1, .ref s9_1, .ref s10_1, .int z_125, .ref s11_1, .int nm_36, .ref s12_1, .ref s13_1, .ref s14_1, .int 1, .ref s15_1, .ref s16_1, .ref s17_1, .ref s18_1])) g0 = .inr (3, [.ref s1_1, .ref s2_1, .ref s3_1, .ref s4_1, .ref s5_1, .ref s6_1, .ref s7_1, .int pa_36, .int lm_36, .ref s8_1, .ref s9_1, .ref s10_1, .int z_125, .ref s11_1, .int nm_36, .ref s12_1, .ref s13_1, .ref s14_1, .int 1, .ref s15_1, .ref s16_1, .ref s17_1, .ref s18_1]) := va_up_self _ _ _
                                have eq_129 := (va_up_ne f_118 (.inr (3, [.ref s1_1, .ref s2_1, .ref s3_1, .ref s4_1, .ref s5_1, .ref s6_1, .ref s7_1, .int pa_36, .int lm_36, .ref s8_1, .ref s9_1, .ref s10_1, .int z_125, .ref s11_1, .int nm_36, .ref s12_1, .ref s13_1, .ref s14_1, .int 1, .ref s15_1, .ref s16_1, .ref s17_1, .ref s18_1])) (isr_ne fs2_1 hg0 (by decide))).trans eq_120
                                have eq_130 := (va_up_ne f_118 (.inr (3, [.ref s1_1, .ref s2_1, .ref s3_1, .ref s4_1, .ref s5_1, .ref s6_1, .ref s7_1, .int pa_36, .int lm_36, .ref s8_1, .ref s9_1, .ref s10_1, .int z_125, .ref s11_1, .int nm_36, .ref s12_1, .ref s13_1, .ref s14_1, .int 1, .ref s15_1, .ref s16_1, .ref s17_1, .ref s18_1])) (isr_ne fs3_1 hg0 (by decide))).trans eq_121
                                have eq_131 := (va_up_ne f_118 (.inr (3, [.ref s1_1, .ref s2_1, .ref s3_1, .ref s4_1, .ref s5_1, .ref s6_1, .ref s7_1, .int pa_36, .int lm_36, .ref s8_1, .ref s9_1, .ref s10_1, .int z_125, .ref s11_1, .int nm_36, .ref s12_1, .ref s13_1, .ref s14_1, .int 1, .ref s15_1, .ref s16_1, .ref s17_1, .ref s18_1])) (isr_ne fs11_1 hg0 (by decide))).trans es_f_118
                                have hfr := fr_up (S := (sK [10, 21, 22, 23, 24])) (e := .inr (3, [.ref s1_1, .ref s2_1, .ref s3_1, .ref s4_1, .ref s5_1, .ref s6_1, .ref s7_1, .int pa_36, .int lm_36, .ref s8_1, .ref s9_1, .ref s10_1, .int z_125, .ref s11_1, .int nm_36, .ref s12_1, .ref s13_1, .ref s14_1, .int 1, .ref s15_1, .ref s16_1, .ref s17_1, .ref s18_1])) hfr hg0 (by decide)
                                have hXL := XL.up (e := .inr (3, [.ref s1_1, .ref s2_1, .ref s3_1, .ref s4_1, .ref s5_1, .ref s6_1, .ref s7_1, .int pa_36, .int lm_36, .ref s8_1, .ref s9_1, .ref s10_1, .int z_125, .ref s11_1, .int nm_36, .ref s12_1, .ref s13_1, .ref s14_1, .int 1, .ref s15_1, .ref s16_1, .ref s17_1, .ref s18_1])) hXL hg0 (by decide) (by decide)
                                generalize va_up f_118 g0 (.inr (3, [.ref s1_1, .ref s2_1, .ref s3_1, .ref s4_1, .ref s5_1, .ref s6_1, .ref s7_1, .int pa_36, .int lm_36, .ref s8_1, .ref s9_1, .ref s10_1, .int z_125, .ref s11_1, .int nm_36, .ref s12_1, .ref s13_1, .ref s14_1, .int 1, .ref s15_1, .ref s16_1, .ref s17_1, .ref s18_1])) = f_128 at hP hD hPI es_f_128 eq_129 eq_130 eq_131 hfr hXL
                                obtain ⟨i_132, ei_132⟩ : ∃ y : Int32, y = i4 + 1 := ⟨_, rfl⟩
                                refine lv_iinc (v := i_132) (lv' := [(4, .int i_132), (5, .int z_44), (3, .int z_31), (2, .int i2), (0, .ref g0), (1, .int o0)]) hx hb dX3_find_188 hl (k := 1) rfl (by rw [ei_132]; rfl) (by decide) rfl (fun ls hl => ?_)
                                have ki_132 := inc_toInt ei_132 (by omega)
                                refine lv_goto (tgt := 50) hx hb dX3_find_191 (by decide) ?_
                                exact ih_50 i_132 f_128 _ _ _  (by omega) (by omega) ⟨hfr, hXL⟩ hPI hP hD hS (lv_sub hl [0, 2, 3, 4, 5] rfl)
                              · have c_124 := mt Int32.le_iff_toInt_le.mpr c_124
                                refine lv_iconst (v := 1) hx hb dX3_find_179 (by decide) ?_
                                refine lv_goto (tgt := 184) hx hb dX3_find_180 (by decide) ?_
                                refine lv_iadd hx hb dX3_find_184 ?_
                                refine lv_topi (fun z_133 ez_133 => ?_)
                                have kz_133 := add_toInt ez_133 (by omega) (by omega)
                                obtain ⟨k_134, hk_134⟩ := va_plg hg0.1 eq_119
                                have hD9 := hD
                                have rg_135 : 0 ≤ Int32.toInt z_133 ∧ Int32.toInt z_133 ≤ 24 := by constructor <;> omega
                                refine va_put (D := (dC, dI)) (ci := 3) (v := .int z_133) (ty := .int) (C := RX3) (T := TX3) (N := 23) hx hb hts iX3_ tyX3 tyX3_ok nmX3 hown hK hP hD hS k_134 hk_134 rfl 12 (by decide) (hts (.fieldLink RX3 167 "FieldLeavesModel" "foundMany" "I") (by decide +kernel)) (fun _ h9 => h9) rfl (by decide +kernel) rfl rfl (Nat.le_of_ble_eq_true rfl) dX3_find_185 (fun H locs hP hD hS => ?_)
                                have hP : va_P (dC, dI) vwCl (va_pl L (va_up f_118 g0 (.inr (3, [.ref s1_1, .ref s2_1, .ref s3_1, .ref s4_1, .ref s5_1, .ref s6_1, .ref s7_1, .int pa_36, .int lm_36, .ref s8_1, .ref s9_1, .ref s10_1, .int z_133, .ref s11_1, .int nm_36, .ref s12_1, .ref s13_1, .ref s14_1, .int 1, .ref s15_1, .ref s16_1, .ref s17_1, .ref s18_1])))) H := by rw [← va_pls hD9 hg0.1 hk_134 _]; exact hP
                                have hD : va_D A (va_pl L (va_up f_118 g0 (.inr (3, [.ref s1_1, .ref s2_1, .ref s3_1, .ref s4_1, .ref s5_1, .ref s6_1, .ref s7_1, .int pa_36, .int lm_36, .ref s8_1, .ref s9_1, .ref s10_1, .int z_133, .ref s11_1, .int nm_36, .ref s12_1, .ref s13_1, .ref s14_1, .int 1, .ref s15_1, .ref s16_1, .ref s17_1, .ref s18_1])))) := by rw [← va_pls hD9 hg0.1 hk_134 _]; exact hD
                                have hPI := hPI.put (e := .inr (3, [.ref s1_1, .ref s2_1, .ref s3_1, .ref s4_1, .ref s5_1, .ref s6_1, .ref s7_1, .int pa_36, .int lm_36, .ref s8_1, .ref s9_1, .ref s10_1, .int z_133, .ref s11_1, .int nm_36, .ref s12_1, .ref s13_1, .ref s14_1, .int 1, .ref s15_1, .ref s16_1, .ref s17_1, .ref s18_1])) hg0 ⟨s1_1, s2_1, s3_1, s4_1, s5_1, s6_1, s7_1, pa_36, lm_36, s8_1, s9_1, s10_1, z_133, s11_1, nm_36, s12_1, s13_1, s14_1, 1, s15_1, s16_1, s17_1, s18_1, rfl, fs1_1, fs2_1, fs3_1, fs4_1, fs5_1, fs6_1, fs7_1, flm_36, fs8_1, fs9_1, fs10_1, rg_135, fs11_1, fnm_36, fs12_1, fs13_1, fs14_1, (Or.inl rfl), fs15_1, fs16_1, fs17_1, fs18_1⟩
                                have es_f_136 : va_up f_118 g0 (.inr (3, [.ref s1_1, .ref s2_1, .ref s3_1, .ref s4_1, .ref s5_1, .ref s6_1, .ref s7_1, .int pa_36, .int lm_36, .ref s8_1, .ref s9_1, .ref s10_1, .int z_133, .ref s11_1, .int nm_36, .ref s12_1, .ref s13_1, .ref s14_1, .int 1, .ref s15_1, .ref s16_1, .ref s17_1, .ref s18_1])) g0 = .inr (3, [.ref s1_1, .ref s2_1, .ref s3_1, .ref s4_1, .ref s5_1, .ref s6_1, .ref s7_1, .int pa_36, .int lm_36, .ref s8_1, .ref s9_1, .ref s10_1, .int z_133, .ref s11_1, .int nm_36, .ref s12_1, .ref s13_1, .ref s14_1, .int 1, .ref s15_1, .ref s16_1, .ref s17_1, .ref s18_1]) := va_up_self _ _ _
                                have eq_137 := (va_up_ne f_118 (.inr (3, [.ref s1_1, .ref s2_1, .ref s3_1, .ref s4_1, .ref s5_1, .ref s6_1, .ref s7_1, .int pa_36, .int lm_36, .ref s8_1, .ref s9_1, .ref s10_1, .int z_133, .ref s11_1, .int nm_36, .ref s12_1, .ref s13_1, .ref s14_1, .int 1, .ref s15_1, .ref s16_1, .ref s17_1, .ref s18_1])) (isr_ne fs2_1 hg0 (by decide))).trans eq_120
                                have eq_138 := (va_up_ne f_118 (.inr (3, [.ref s1_1, .ref s2_1, .ref s3_1, .ref s4_1, .ref s5_1, .ref s6_1, .ref s7_1, .int pa_36, .int lm_36, .ref s8_1, .ref s9_1, .ref s10_1, .int z_133, .ref s11_1, .int nm_36, .ref s12_1, .ref s13_1, .ref s14_1, .int 1, .ref s15_1, .ref s16_1, .ref s17_1, .ref s18_1])) (isr_ne fs3_1 hg0 (by decide))).trans eq_121
                                have eq_139 := (va_up_ne f_118 (.inr (3, [.ref s1_1, .ref s2_1, .ref s3_1, .ref s4_1, .ref s5_1, .ref s6_1, .ref s7_1, .int pa_36, .int lm_36, .ref s8_1, .ref s9_1, .ref s10_1, .int z_133, .ref s11_1, .int nm_36, .ref s12_1, .ref s13_1, .ref s14_1, .int 1, .ref s15_1, .ref s16_1, .ref s17_1, .ref s18_1])) (isr_ne fs11_1 hg0 (by decide))).trans es_f_118
                                have hfr := fr_up (S := (sK [10, 21, 22, 23, 24])) (e := .inr (3, [.ref s1_1, .ref s2_1, .ref s3_1, .ref s4_1, .ref s5_1, .ref s6_1, .ref s7_1, .int pa_36, .int lm_36, .ref s8_1, .ref s9_1, .ref s10_1, .int z_133, .ref s11_1, .int nm_36, .ref s12_1, .ref s13_1, .ref s14_1, .int 1, .ref s15_1, .ref s16_1, .ref s17_1, .ref s18_1])) hfr hg0 (by decide)
                                have hXL := XL.up (e := .inr (3, [.ref s1_1, .ref s2_1, .ref s3_1, .ref s4_1, .ref s5_1, .ref s6_1, .ref s7_1, .int pa_36, .int lm_36, .ref s8_1, .ref s9_1, .ref s10_1, .int z_133, .ref s11_1, .int nm_36, .ref s12_1, .ref s13_1, .ref s14_1, .int 1, .ref s15_1, .ref s16_1, .ref s17_1, .ref s18_1])) hXL hg0 (by decide) (by decide)
                                generalize va_up f_118 g0 (.inr (3, [.ref s1_1, .ref s2_1, .ref s3_1, .ref s4_1, .ref s5_1, .ref s6_1, .ref s7_1, .int pa_36, .int lm_36, .ref s8_1, .ref s9_1, .ref s10_1, .int z_133, .ref s11_1, .int nm_36, .ref s12_1, .ref s13_1, .ref s14_1, .int 1, .ref s15_1, .ref s16_1, .ref s17_1, .ref s18_1])) = f_136 at hP hD hPI es_f_136 eq_137 eq_138 eq_139 hfr hXL
                                obtain ⟨i_140, ei_140⟩ : ∃ y : Int32, y = i4 + 1 := ⟨_, rfl⟩
                                refine lv_iinc (v := i_140) (lv' := [(4, .int i_140), (5, .int z_44), (3, .int z_31), (2, .int i2), (0, .ref g0), (1, .int o0)]) hx hb dX3_find_188 hl (k := 1) rfl (by rw [ei_140]; rfl) (by decide) rfl (fun ls hl => ?_)
                                have ki_140 := inc_toInt ei_140 (by omega)
                                refine lv_goto (tgt := 50) hx hb dX3_find_191 (by decide) ?_
                                exact ih_50 i_140 f_136 _ _ _  (by omega) (by omega) ⟨hfr, hXL⟩ hPI hP hD hS (lv_sub hl [0, 2, 3, 4, 5] rfl)
                            · have c_116 := mt Int32.le_iff_toInt_le.mpr c_116
                              refine lv_aload_n hx hb dX3_find_153 rfl (lv_at hl 4 rfl) ?_
                              obtain ⟨k_141, hk_141⟩ := va_plg hg0.1 es_f_111
                              refine va_get (D := (dC, dI)) (ci := 3) (v := .int fm_36) (C := RX3) (T := TX3) (N := 23) hx hb hts iX3_ hown hK hP k_141 hk_141 rfl 12 (by decide) (hts (.fieldLink RX3 167 "FieldLeavesModel" "foundMany" "I") (by decide +kernel)) (fun _ h9 => h9) rfl dX3_find_154 ?_
                              refine lv_goto (tgt := 162) hx hb dX3_find_157 (by decide) ?_
                              refine lv_iload hx hb dX3_find_162 (lv_at hl 0 rfl) ?_
                              obtain ⟨g_142, e_142, fg_142⟩ := hPI.a21 fs11_1
                              obtain ⟨k_142, hk_142⟩ := va_plg fs11_1.1 e_142
                              have h_142 : vp_in fm_36 25 := (vp_in_iff.mpr (by constructor <;> omega))
                              have fw_142 := updS (P := fun v => 0 ≤ v.toInt ∧ v.toInt < 6400) (k := Int32.toNatClampNeg fm_36) (v := z_44) fg_142 (by omega)
                              have hD9 := hD
                              refine va_iast hx hb hK hP hD hS k_142 0 hk_142 rfl h_142 dX3_find_164 (fun H locs hP hD hS => ?_)
                              have hP : va_P (dC, dI) vwCl (va_pl L (va_up f_111 s11_1 (.inl (kI, 25, .inl (upd g_142 (Int32.toNatClampNeg fm_36) z_44))))) H := by rw [← va_pls hD9 fs11_1.1 hk_142 _]; exact hP
                              have hD : va_D A (va_pl L (va_up f_111 s11_1 (.inl (kI, 25, .inl (upd g_142 (Int32.toNatClampNeg fm_36) z_44))))) := by rw [← va_pls hD9 fs11_1.1 hk_142 _]; exact hD
                              have hPI := hPI.put (e := .inl (kI, 25, .inl (upd g_142 (Int32.toNatClampNeg fm_36) z_44))) fs11_1 ⟨_, rfl, fw_142⟩
                              have es_f_143 : va_up f_111 s11_1 (.inl (kI, 25, .inl (upd g_142 (Int32.toNatClampNeg fm_36) z_44))) s11_1 = .inl (kI, 25, .inl (upd g_142 (Int32.toNatClampNeg fm_36) z_44)) := va_up_self _ _ _
                              have eq_144 := (va_up_ne f_111 (.inl (kI, 25, .inl (upd g_142 (Int32.toNatClampNeg fm_36) z_44))) (isr_ne hg0 fs11_1 (by decide))).trans es_f_111
                              have eq_145 := (va_up_ne f_111 (.inl (kI, 25, .inl (upd g_142 (Int32.toNatClampNeg fm_36) z_44))) (isr_ne fs2_1 fs11_1 (by decide))).trans eq_112
                              have eq_146 := (va_up_ne f_111 (.inl (kI, 25, .inl (upd g_142 (Int32.toNatClampNeg fm_36) z_44))) (isr_ne fs3_1 fs11_1 (by decide))).trans eq_113
                              have hfr := fr_up (S := (sK [10, 21, 22, 23, 24])) (e := .inl (kI, 25, .inl (upd g_142 (Int32.toNatClampNeg fm_36) z_44))) hfr fs11_1 (by decide)
                              have hXL := XL.up (e := .inl (kI, 25, .inl (upd g_142 (Int32.toNatClampNeg fm_36) z_44))) hXL fs11_1 (by decide) (by decide)
                              generalize va_up f_111 s11_1 (.inl (kI, 25, .inl (upd g_142 (Int32.toNatClampNeg fm_36) z_44))) = f_143 at hP hD hPI es_f_143 eq_144 eq_145 eq_146 hfr hXL
                              refine lv_aload_n hx hb dX3_find_165 rfl (lv_at hl 4 rfl) ?_
                              refine lv_dup hx hb dX3_find_166 rfl ?_
                              obtain ⟨k_147, hk_147⟩ := va_plg hg0.1 eq_144
                              refine va_get (D := (dC, dI)) (ci := 3) (v := .int fm_36) (C := RX3) (T := TX3) (N := 23) hx hb hts iX3_ hown hK hP k_147 hk_147 rfl 12 (by decide) (hts (.fieldLink RX3 167 "FieldLeavesModel" "foundMany" "I") (by decide +kernel)) (fun _ h9 => h9) rfl dX3_find_167 ?_
                              refine lv_aload_n hx hb dX3_find_170 rfl (lv_at hl 4 rfl) ?_
                              obtain ⟨k_148, hk_148⟩ := va_plg hg0.1 eq_144
                              refine va_get (D := (dC, dI)) (ci := 3) (v := .int fm_36) (C := RX3) (T := TX3) (N := 23) hx hb hts iX3_ hown hK hP k_148 hk_148 rfl 12 (by decide) (hts (.fieldLink RX3 167 "FieldLeavesModel" "foundMany" "I") (by decide +kernel)) (fun _ h9 => h9) rfl dX3_find_171 ?_
                              refine lv_bipush (v := 24) hx hb dX3_find_174 (by decide) ?_
                              refine lv_icmp_ge (tgt := 183) hx hb dX3_find_176 (by decide) (fun c_149 => ?_) (fun c_149 => ?_)
                              · have c_149 := Int32.le_iff_toInt_le.mp c_149
                                refine lv_iconst (v := 0) hx hb dX3_find_183 (by decide) ?_
                                refine lv_iadd hx hb dX3_find_184 ?_
                                refine lv_topi (fun z_150 ez_150 => ?_)
                                have kz_150 := add_toInt ez_150 (by omega) (by omega)
                                obtain ⟨k_151, hk_151⟩ := va_plg hg0.1 eq_144
                                have hD9 := hD
                                have rg_152 : 0 ≤ Int32.toInt z_150 ∧ Int32.toInt z_150 ≤ 24 := by constructor <;> omega
                                refine va_put (D := (dC, dI)) (ci := 3) (v := .int z_150) (ty := .int) (C := RX3) (T := TX3) (N := 23) hx hb hts iX3_ tyX3 tyX3_ok nmX3 hown hK hP hD hS k_151 hk_151 rfl 12 (by decide) (hts (.fieldLink RX3 167 "FieldLeavesModel" "foundMany" "I") (by decide +kernel)) (fun _ h9 => h9) rfl (by decide +kernel) rfl rfl (Nat.le_of_ble_eq_true rfl) dX3_find_185 (fun H locs hP hD hS => ?_)
                                have hP : va_P (dC, dI) vwCl (va_pl L (va_up f_143 g0 (.inr (3, [.ref s1_1, .ref s2_1, .ref s3_1, .ref s4_1, .ref s5_1, .ref s6_1, .ref s7_1, .int pa_36, .int lm_36, .ref s8_1, .ref s9_1, .ref s10_1, .int z_150, .ref s11_1, .int nm_36, .ref s12_1, .ref s13_1, .ref s14_1, .int 1, .ref s15_1, .ref s16_1, .ref s17_1, .ref s18_1])))) H := by rw [← va_pls hD9 hg0.1 hk_151 _]; exact hP
                                have hD : va_D A (va_pl L (va_up f_143 g0 (.inr (3, [.ref s1_1, .ref s2_1, .ref s3_1, .ref s4_1, .ref s5_1, .ref s6_1, .ref s7_1, .int pa_36, .int lm_36, .ref s8_1, .ref s9_1, .ref s10_1, .int z_150, .ref s11_1, .int nm_36, .ref s12_1, .ref s13_1, .ref s14_1, .int 1, .ref s15_1, .ref s16_1, .ref s17_1, .ref s18_1])))) := by rw [← va_pls hD9 hg0.1 hk_151 _]; exact hD
                                have hPI := hPI.put (e := .inr (3, [.ref s1_1, .ref s2_1, .ref s3_1, .ref s4_1, .ref s5_1, .ref s6_1, .ref s7_1, .int pa_36, .int lm_36, .ref s8_1, .ref s9_1, .ref s10_1, .int z_150, .ref s11_1, .int nm_36, .ref s12_1, .ref s13_1, .ref s14_1, .int 1, .ref s15_1, .ref s16_1, .ref s17_1, .ref s18_1])) hg0 ⟨s1_1, s2_1, s3_1, s4_1, s5_1, s6_1, s7_1, pa_36, lm_36, s8_1, s9_1, s10_1, z_150, s11_1, nm_36, s12_1, s13_1, s14_1, 1, s15_1, s16_1, s17_1, s18_1, rfl, fs1_1, fs2_1, fs3_1, fs4_1, fs5_1, fs6_1, fs7_1, flm_36, fs8_1, fs9_1, fs10_1, rg_152, fs11_1, fnm_36, fs12_1, fs13_1, fs14_1, (Or.inl rfl), fs15_1, fs16_1, fs17_1, fs18_1⟩
                                have es_f_153 : va_up f_143 g0 (.inr (3, [.ref s1_1, .ref s2_1, .ref s3_1, .ref s4_1, .ref s5_1, .ref s6_1, .ref s7_1, .int pa_36, .int lm_36, .ref s8_1, .ref s9_1, .ref s10_1, .int z_150, .ref s11_1, .int nm_36, .ref s12_1, .ref s13_1, .ref s14_1, .int 1, .ref s15_1, .ref s16_1, .ref s17_1, .ref s18_1])) g0 = .inr (3, [.ref s1_1, .ref s2_1, .ref s3_1, .ref s4_1, .ref s5_1, .ref s6_1, .ref s7_1, .int pa_36, .int lm_36, .ref s8_1, .ref s9_1, .ref s10_1, .int z_150, .ref s11_1, .int nm_36, .ref s12_1, .ref s13_1, .ref s14_1, .int 1, .ref s15_1, .ref s16_1, .ref s17_1, .ref s18_1]) := va_up_self _ _ _
                                have eq_154 := (va_up_ne f_143 (.inr (3, [.ref s1_1, .ref s2_1, .ref s3_1, .ref s4_1, .ref s5_1, .ref s6_1, .ref s7_1, .int pa_36, .int lm_36, .ref s8_1, .ref s9_1, .ref s10_1, .int z_150, .ref s11_1, .int nm_36, .ref s12_1, .ref s13_1, .ref s14_1, .int 1, .ref s15_1, .ref s16_1, .ref s17_1, .ref s18_1])) (isr_ne fs2_1 hg0 (by decide))).trans eq_145
                                have eq_155 := (va_up_ne f_143 (.inr (3, [.ref s1_1, .ref s2_1, .ref s3_1, .ref s4_1, .ref s5_1, .ref s6_1, .ref s7_1, .int pa_36, .int lm_36, .ref s8_1, .ref s9_1, .ref s10_1, .int z_150, .ref s11_1, .int nm_36, .ref s12_1, .ref s13_1, .ref s14_1, .int 1, .ref s15_1, .ref s16_1, .ref s17_1, .ref s18_1])) (isr_ne fs3_1 hg0 (by decide))).trans eq_146
                                have eq_156 := (va_up_ne f_143 (.inr (3, [.ref s1_1, .ref s2_1, .ref s3_1, .ref s4_1, .ref s5_1, .ref s6_1, .ref s7_1, .int pa_36, .int lm_36, .ref s8_1, .ref s9_1, .ref s10_1, .int z_150, .ref s11_1, .int nm_36, .ref s12_1, .ref s13_1, .ref s14_1, .int 1, .ref s15_1, .ref s16_1, .ref s17_1, .ref s18_1])) (isr_ne fs11_1 hg0 (by decide))).trans es_f_143
                                have hfr := fr_up (S := (sK [10, 21, 22, 23, 24])) (e := .inr (3, [.ref s1_1, .ref s2_1, .ref s3_1, .ref s4_1, .ref s5_1, .ref s6_1, .ref s7_1, .int pa_36, .int lm_36, .ref s8_1, .ref s9_1, .ref s10_1, .int z_150, .ref s11_1, .int nm_36, .ref s12_1, .ref s13_1, .ref s14_1, .int 1, .ref s15_1, .ref s16_1, .ref s17_1, .ref s18_1])) hfr hg0 (by decide)
                                have hXL := XL.up (e := .inr (3, [.ref s1_1, .ref s2_1, .ref s3_1, .ref s4_1, .ref s5_1, .ref s6_1, .ref s7_1, .int pa_36, .int lm_36, .ref s8_1, .ref s9_1, .ref s10_1, .int z_150, .ref s11_1, .int nm_36, .ref s12_1, .ref s13_1, .ref s14_1, .int 1, .ref s15_1, .ref s16_1, .ref s17_1, .ref s18_1])) hXL hg0 (by decide) (by decide)
                                generalize va_up f_143 g0 (.inr (3, [.ref s1_1, .ref s2_1, .ref s3_1, .ref s4_1, .ref s5_1, .ref s6_1, .ref s7_1, .int pa_36, .int lm_36, .ref s8_1, .ref s9_1, .ref s10_1, .int z_150, .ref s11_1, .int nm_36, .ref s12_1, .ref s13_1, .ref s14_1, .int 1, .ref s15_1, .ref s16_1, .ref s17_1, .ref s18_1])) = f_153 at hP hD hPI es_f_153 eq_154 eq_155 eq_156 hfr hXL
                                obtain ⟨i_157, ei_157⟩ : ∃ y : Int32, y = i4 + 1 := ⟨_, rfl⟩
                                refine lv_iinc (v := i_157) (lv' := [(4, .int i_157), (5, .int z_44), (3, .int z_31), (2, .int i2), (0, .ref g0), (1, .int o0)]) hx hb dX3_find_188 hl (k := 1) rfl (by rw [ei_157]; rfl) (by decide) rfl (fun ls hl => ?_)
                                have ki_157 := inc_toInt ei_157 (by omega)
                                refine lv_goto (tgt := 50) hx hb dX3_find_191 (by decide) ?_
                                exact ih_50 i_157 f_153 _ _ _  (by omega) (by omega) ⟨hfr, hXL⟩ hPI hP hD hS (lv_sub hl [0, 2, 3, 4, 5] rfl)
                              · have c_149 := mt Int32.le_iff_toInt_le.mpr c_149
                                refine lv_iconst (v := 1) hx hb dX3_find_179 (by decide) ?_
                                refine lv_goto (tgt := 184) hx hb dX3_find_180 (by decide) ?_
                                refine lv_iadd hx hb dX3_find_184 ?_
                                refine lv_topi (fun z_158 ez_158 => ?_)
                                have kz_158 := add_toInt ez_158 (by omega) (by omega)
                                obtain ⟨k_159, hk_159⟩ := va_plg hg0.1 eq_144
                                have hD9 := hD
                                have rg_160 : 0 ≤ Int32.toInt z_158 ∧ Int32.toInt z_158 ≤ 24 := by constructor <;> omega
                                refine va_put (D := (dC, dI)) (ci := 3) (v := .int z_158) (ty := .int) (C := RX3) (T := TX3) (N := 23) hx hb hts iX3_ tyX3 tyX3_ok nmX3 hown hK hP hD hS k_159 hk_159 rfl 12 (by decide) (hts (.fieldLink RX3 167 "FieldLeavesModel" "foundMany" "I") (by decide +kernel)) (fun _ h9 => h9) rfl (by decide +kernel) rfl rfl (Nat.le_of_ble_eq_true rfl) dX3_find_185 (fun H locs hP hD hS => ?_)
                                have hP : va_P (dC, dI) vwCl (va_pl L (va_up f_143 g0 (.inr (3, [.ref s1_1, .ref s2_1, .ref s3_1, .ref s4_1, .ref s5_1, .ref s6_1, .ref s7_1, .int pa_36, .int lm_36, .ref s8_1, .ref s9_1, .ref s10_1, .int z_158, .ref s11_1, .int nm_36, .ref s12_1, .ref s13_1, .ref s14_1, .int 1, .ref s15_1, .ref s16_1, .ref s17_1, .ref s18_1])))) H := by rw [← va_pls hD9 hg0.1 hk_159 _]; exact hP
                                have hD : va_D A (va_pl L (va_up f_143 g0 (.inr (3, [.ref s1_1, .ref s2_1, .ref s3_1, .ref s4_1, .ref s5_1, .ref s6_1, .ref s7_1, .int pa_36, .int lm_36, .ref s8_1, .ref s9_1, .ref s10_1, .int z_158, .ref s11_1, .int nm_36, .ref s12_1, .ref s13_1, .ref s14_1, .int 1, .ref s15_1, .ref s16_1, .ref s17_1, .ref s18_1])))) := by rw [← va_pls hD9 hg0.1 hk_159 _]; exact hD
                                have hPI := hPI.put (e := .inr (3, [.ref s1_1, .ref s2_1, .ref s3_1, .ref s4_1, .ref s5_1, .ref s6_1, .ref s7_1, .int pa_36, .int lm_36, .ref s8_1, .ref s9_1, .ref s10_1, .int z_158, .ref s11_1, .int nm_36, .ref s12_1, .ref s13_1, .ref s14_1, .int 1, .ref s15_1, .ref s16_1, .ref s17_1, .ref s18_1])) hg0 ⟨s1_1, s2_1, s3_1, s4_1, s5_1, s6_1, s7_1, pa_36, lm_36, s8_1, s9_1, s10_1, z_158, s11_1, nm_36, s12_1, s13_1, s14_1, 1, s15_1, s16_1, s17_1, s18_1, rfl, fs1_1, fs2_1, fs3_1, fs4_1, fs5_1, fs6_1, fs7_1, flm_36, fs8_1, fs9_1, fs10_1, rg_160, fs11_1, fnm_36, fs12_1, fs13_1, fs14_1, (Or.inl rfl), fs15_1, fs16_1, fs17_1, fs18_1⟩
                                have es_f_161 : va_up f_143 g0 (.inr (3, [.ref s1_1, .ref s2_1, .ref s3_1, .ref s4_1, .ref s5_1, .ref s6_1, .ref s7_1, .int pa_36, .int lm_36, .ref s8_1, .ref s9_1, .ref s10_1, .int z_158, .ref s11_1, .int nm_36, .ref s12_1, .ref s13_1, .ref s14_1, .int 1, .ref s15_1, .ref s16_1, .ref s17_1, .ref s18_1])) g0 = .inr (3, [.ref s1_1, .ref s2_1, .ref s3_1, .ref s4_1, .ref s5_1, .ref s6_1, .ref s7_1, .int pa_36, .int lm_36, .ref s8_1, .ref s9_1, .ref s10_1, .int z_158, .ref s11_1, .int nm_36, .ref s12_1, .ref s13_1, .ref s14_1, .int 1, .ref s15_1, .ref s16_1, .ref s17_1, .ref s18_1]) := va_up_self _ _ _
                                have eq_162 := (va_up_ne f_143 (.inr (3, [.ref s1_1, .ref s2_1, .ref s3_1, .ref s4_1, .ref s5_1, .ref s6_1, .ref s7_1, .int pa_36, .int lm_36, .ref s8_1, .ref s9_1, .ref s10_1, .int z_158, .ref s11_1, .int nm_36, .ref s12_1, .ref s13_1, .ref s14_1, .int 1, .ref s15_1, .ref s16_1, .ref s17_1, .ref s18_1])) (isr_ne fs2_1 hg0 (by decide))).trans eq_145
                                have eq_163 := (va_up_ne f_143 (.inr (3, [.ref s1_1, .ref s2_1, .ref s3_1, .ref s4_1, .ref s5_1, .ref s6_1, .ref s7_1, .int pa_36, .int lm_36, .ref s8_1, .ref s9_1, .ref s10_1, .int z_158, .ref s11_1, .int nm_36, .ref s12_1, .ref s13_1, .ref s14_1, .int 1, .ref s15_1, .ref s16_1, .ref s17_1, .ref s18_1])) (isr_ne fs3_1 hg0 (by decide))).trans eq_146
                                have eq_164 := (va_up_ne f_143 (.inr (3, [.ref s1_1, .ref s2_1, .ref s3_1, .ref s4_1, .ref s5_1, .ref s6_1, .ref s7_1, .int pa_36, .int lm_36, .ref s8_1, .ref s9_1, .ref s10_1, .int z_158, .ref s11_1, .int nm_36, .ref s12_1, .ref s13_1, .ref s14_1, .int 1, .ref s15_1, .ref s16_1, .ref s17_1, .ref s18_1])) (isr_ne fs11_1 hg0 (by decide))).trans es_f_143
                                have hfr := fr_up (S := (sK [10, 21, 22, 23, 24])) (e := .inr (3, [.ref s1_1, .ref s2_1, .ref s3_1, .ref s4_1, .ref s5_1, .ref s6_1, .ref s7_1, .int pa_36, .int lm_36, .ref s8_1, .ref s9_1, .ref s10_1, .int z_158, .ref s11_1, .int nm_36, .ref s12_1, .ref s13_1, .ref s14_1, .int 1, .ref s15_1, .ref s16_1, .ref s17_1, .ref s18_1])) hfr hg0 (by decide)
                                have hXL := XL.up (e := .inr (3, [.ref s1_1, .ref s2_1, .ref s3_1, .ref s4_1, .ref s5_1, .ref s6_1, .ref s7_1, .int pa_36, .int lm_36, .ref s8_1, .ref s9_1, .ref s10_1, .int z_158, .ref s11_1, .int nm_36, .ref s12_1, .ref s13_1, .ref s14_1, .int 1, .ref s15_1, .ref s16_1, .ref s17_1, .ref s18_1])) hXL hg0 (by decide) (by decide)
                                generalize va_up f_143 g0 (.inr (3, [.ref s1_1, .ref s2_1, .ref s3_1, .ref s4_1, .ref s5_1, .ref s6_1, .ref s7_1, .int pa_36, .int lm_36, .ref s8_1, .ref s9_1, .ref s10_1, .int z_158, .ref s11_1, .int nm_36, .ref s12_1, .ref s13_1, .ref s14_1, .int 1, .ref s15_1, .ref s16_1, .ref s17_1, .ref s18_1])) = f_161 at hP hD hPI es_f_161 eq_162 eq_163 eq_164 hfr hXL
                                obtain ⟨i_165, ei_165⟩ : ∃ y : Int32, y = i4 + 1 := ⟨_, rfl⟩
                                refine lv_iinc (v := i_165) (lv' := [(4, .int i_165), (5, .int z_44), (3, .int z_31), (2, .int i2), (0, .ref g0), (1, .int o0)]) hx hb dX3_find_188 hl (k := 1) rfl (by rw [ei_165]; rfl) (by decide) rfl (fun ls hl => ?_)
                                have ki_165 := inc_toInt ei_165 (by omega)
                                refine lv_goto (tgt := 50) hx hb dX3_find_191 (by decide) ?_
                                exact ih_50 i_165 f_161 _ _ _  (by omega) (by omega) ⟨hfr, hXL⟩ hPI hP hD hS (lv_sub hl [0, 2, 3, 4, 5] rfl)
                        · refine lv_if_eq (tgt := 136) hx hb dX3_find_120 (by decide) (fun _ => ?_) (fun c9 => absurd c9 (by decide))
                          refine lv_iconst (v := 0) hx hb dX3_find_136 (by decide) ?_
                          obtain ⟨k_166, hk_166⟩ := va_plg hg0.1 e_36
                          have hD9 := hD
                          refine va_put (D := (dC, dI)) (ci := 3) (v := .int 0) (ty := .boolean) (C := RX3) (T := TX3) (N := 23) hx hb hts iX3_ tyX3 tyX3_ok nmX3 hown hK hP hD hS k_166 hk_166 rfl 18 (by decide) (hts (.fieldLink RX3 163 "FieldLeavesModel" "isRoom" "Z") (by decide +kernel)) (fun _ h9 => h9) rfl (by decide +kernel) rfl rfl (Nat.le_of_ble_eq_true rfl) dX3_find_137 (fun H locs hP hD hS => ?_)
                          have hP : va_P (dC, dI) vwCl (va_pl L (va_up fl50 g0 (.inr (3, [.ref s1_1, .ref s2_1, .ref s3_1, .ref s4_1, .ref s5_1, .ref s6_1, .ref s7_1, .int pa_36, .int lm_36, .ref s8_1, .ref s9_1, .ref s10_1, .int fm_36, .ref s11_1, .int nm_36, .ref s12_1, .ref s13_1, .ref s14_1, .int 0, .ref s15_1, .ref s16_1, .ref s17_1, .ref s18_1])))) H := by rw [← va_pls hD9 hg0.1 hk_166 _]; exact hP
                          have hD : va_D A (va_pl L (va_up fl50 g0 (.inr (3, [.ref s1_1, .ref s2_1, .ref s3_1, .ref s4_1, .ref s5_1, .ref s6_1, .ref s7_1, .int pa_36, .int lm_36, .ref s8_1, .ref s9_1, .ref s10_1, .int fm_36, .ref s11_1, .int nm_36, .ref s12_1, .ref s13_1, .ref s14_1, .int 0, .ref s15_1, .ref s16_1, .ref s17_1, .ref s18_1])))) := by rw [← va_pls hD9 hg0.1 hk_166 _]; exact hD
                          have hPI := hPI.put (e := .inr (3, [.ref s1_1, .ref s2_1, .ref s3_1, .ref s4_1, .ref s5_1, .ref s6_1, .ref s7_1, .int pa_36, .int lm_36, .ref s8_1, .ref s9_1, .ref s10_1, .int fm_36, .ref s11_1, .int nm_36, .ref s12_1, .ref s13_1, .ref s14_1, .int 0, .ref s15_1, .ref s16_1, .ref s17_1, .ref s18_1])) hg0 ⟨s1_1, s2_1, s3_1, s4_1, s5_1, s6_1, s7_1, pa_36, lm_36, s8_1, s9_1, s10_1, fm_36, s11_1, nm_36, s12_1, s13_1, s14_1, 0, s15_1, s16_1, s17_1, s18_1, rfl, fs1_1, fs2_1, fs3_1, fs4_1, fs5_1, fs6_1, fs7_1, flm_36, fs8_1, fs9_1, fs10_1, ffm_36, fs11_1, fnm_36, fs12_1, fs13_1, fs14_1, (Or.inr rfl), fs15_1, fs16_1, fs17_1, fs18_1⟩
                          have es_f_167 : va_up fl50 g0 (.inr (3, [.ref s1_1, .ref s2_1, .ref s3_1, .ref s4_1, .ref s5_1, .ref s6_1, .ref s7_1, .int pa_36, .int lm_36, .ref s8_1, .ref s9_1, .ref s10_1, .int fm_36, .ref s11_1, .int nm_36, .ref s12_1, .ref s13_1, .ref s14_1, .int 0, .ref s15_1, .ref s16_1, .ref s17_1, .ref s18_1])) g0 = .inr (3, [.ref s1_1, .ref s2_1, .ref s3_1, .ref s4_1, .ref s5_1, .ref s6_1, .ref s7_1, .int pa_36, .int lm_36, .ref s8_1, .ref s9_1, .ref s10_1, .int fm_36, .ref s11_1, .int nm_36, .ref s12_1, .ref s13_1, .ref s14_1, .int 0, .ref s15_1, .ref s16_1, .ref s17_1, .ref s18_1]) := va_up_self _ _ _
                          have eq_168 := (va_up_ne fl50 (.inr (3, [.ref s1_1, .ref s2_1, .ref s3_1, .ref s4_1, .ref s5_1, .ref s6_1, .ref s7_1, .int pa_36, .int lm_36, .ref s8_1, .ref s9_1, .ref s10_1, .int fm_36, .ref s11_1, .int nm_36, .ref s12_1, .ref s13_1, .ref s14_1, .int 0, .ref s15_1, .ref s16_1, .ref s17_1, .ref s18_1])) (isr_ne fs2_1 hg0 (by decide))).trans e_37
                          have eq_169 := (va_up_ne fl50 (.inr (3, [.ref s1_1, .ref s2_1, .ref s3_1, .ref s4_1, .ref s5_1, .ref s6_1, .ref s7_1, .int pa_36, .int lm_36, .ref s8_1, .ref s9_1, .ref s10_1, .int fm_36, .ref s11_1, .int nm_36, .ref s12_1, .ref s13_1, .ref s14_1, .int 0, .ref s15_1, .ref s16_1, .ref s17_1, .ref s18_1])) (isr_ne fs3_1 hg0 (by decide))).trans e_43
                          have hfr := fr_up (S := (sK [10, 21, 22, 23, 24])) (e := .inr (3, [.ref s1_1, .ref s2_1, .ref s3_1, .ref s4_1, .ref s5_1, .ref s6_1, .ref s7_1, .int pa_36, .int lm_36, .ref s8_1, .ref s9_1, .ref s10_1, .int fm_36, .ref s11_1, .int nm_36, .ref s12_1, .ref s13_1, .ref s14_1, .int 0, .ref s15_1, .ref s16_1, .ref s17_1, .ref s18_1])) hfr hg0 (by decide)
                          have hXL := XL.up (e := .inr (3, [.ref s1_1, .ref s2_1, .ref s3_1, .ref s4_1, .ref s5_1, .ref s6_1, .ref s7_1, .int pa_36, .int lm_36, .ref s8_1, .ref s9_1, .ref s10_1, .int fm_36, .ref s11_1, .int nm_36, .ref s12_1, .ref s13_1, .ref s14_1, .int 0, .ref s15_1, .ref s16_1, .ref s17_1, .ref s18_1])) hXL hg0 (by decide) (by decide)
                          generalize va_up fl50 g0 (.inr (3, [.ref s1_1, .ref s2_1, .ref s3_1, .ref s4_1, .ref s5_1, .ref s6_1, .ref s7_1, .int pa_36, .int lm_36, .ref s8_1, .ref s9_1, .ref s10_1, .int fm_36, .ref s11_1, .int nm_36, .ref s12_1, .ref s13_1, .ref s14_1, .int 0, .ref s15_1, .ref s16_1, .ref s17_1, .ref s18_1])) = f_167 at hP hD hPI es_f_167 eq_168 eq_169 hfr hXL
                          refine lv_aload_n hx hb dX3_find_140 rfl (lv_at hl 4 rfl) ?_
                          obtain ⟨k_170, hk_170⟩ := va_plg hg0.1 es_f_167
                          refine va_get (D := (dC, dI)) (ci := 3) (v := .ref s11_1) (C := RX3) (T := TX3) (N := 23) hx hb hts iX3_ hown hK hP k_170 hk_170 rfl 13 (by decide) (hts (.fieldLink RX3 44 "FieldLeavesModel" "found" "[I") (by decide +kernel)) (fun _ h9 => h9) rfl dX3_find_141 ?_
                          refine lv_aload_n hx hb dX3_find_144 rfl (lv_at hl 4 rfl) ?_
                          obtain ⟨k_171, hk_171⟩ := va_plg hg0.1 es_f_167
                          refine va_get (D := (dC, dI)) (ci := 3) (v := .int fm_36) (C := RX3) (T := TX3) (N := 23) hx hb hts iX3_ hown hK hP k_171 hk_171 rfl 12 (by decide) (hts (.fieldLink RX3 167 "FieldLeavesModel" "foundMany" "I") (by decide +kernel)) (fun _ h9 => h9) rfl dX3_find_145 ?_
                          refine lv_bipush (v := 24) hx hb dX3_find_148 (by decide) ?_
                          refine lv_icmp_ge (tgt := 160) hx hb dX3_find_150 (by decide) (fun c_172 => ?_) (fun c_172 => ?_)
                          · have c_172 := Int32.le_iff_toInt_le.mp c_172
                            refine lv_bipush (v := 24) hx hb dX3_find_160 (by decide) ?_
                            refine lv_iload hx hb dX3_find_162 (lv_at hl 0 rfl) ?_
                            obtain ⟨g_173, e_173, fg_173⟩ := hPI.a21 fs11_1
                            obtain ⟨k_173, hk_173⟩ := va_plg fs11_1.1 e_173
                            have h_173 : vp_in 24 25 := (vp_in_iff.mpr (by decide))
                            have fw_173 := updS (P := fun v => 0 ≤ v.toInt ∧ v.toInt < 6400) (k := Int32.toNatClampNeg 24) (v := z_44) fg_173 (by omega)
                            have hD9 := hD
                            refine va_iast hx hb hK hP hD hS k_173 0 hk_173 rfl h_173 dX3_find_164 (fun H locs hP hD hS => ?_)
                            have hP : va_P (dC, dI) vwCl (va_pl L (va_up f_167 s11_1 (.inl (kI, 25, .inl (upd g_173 (Int32.toNatClampNeg 24) z_44))))) H := by rw [← va_pls hD9 fs11_1.1 hk_173 _]; exact hP
                            have hD : va_D A (va_pl L (va_up f_167 s11_1 (.inl (kI, 25, .inl (upd g_173 (Int32.toNatClampNeg 24) z_44))))) := by rw [← va_pls hD9 fs11_1.1 hk_173 _]; exact hD
                            have hPI := hPI.put (e := .inl (kI, 25, .inl (upd g_173 (Int32.toNatClampNeg 24) z_44))) fs11_1 ⟨_, rfl, fw_173⟩
                            have es_f_174 : va_up f_167 s11_1 (.inl (kI, 25, .inl (upd g_173 (Int32.toNatClampNeg 24) z_44))) s11_1 = .inl (kI, 25, .inl (upd g_173 (Int32.toNatClampNeg 24) z_44)) := va_up_self _ _ _
                            have eq_175 := (va_up_ne f_167 (.inl (kI, 25, .inl (upd g_173 (Int32.toNatClampNeg 24) z_44))) (isr_ne hg0 fs11_1 (by decide))).trans es_f_167
                            have eq_176 := (va_up_ne f_167 (.inl (kI, 25, .inl (upd g_173 (Int32.toNatClampNeg 24) z_44))) (isr_ne fs2_1 fs11_1 (by decide))).trans eq_168
                            have eq_177 := (va_up_ne f_167 (.inl (kI, 25, .inl (upd g_173 (Int32.toNatClampNeg 24) z_44))) (isr_ne fs3_1 fs11_1 (by decide))).trans eq_169
                            have hfr := fr_up (S := (sK [10, 21, 22, 23, 24])) (e := .inl (kI, 25, .inl (upd g_173 (Int32.toNatClampNeg 24) z_44))) hfr fs11_1 (by decide)
                            have hXL := XL.up (e := .inl (kI, 25, .inl (upd g_173 (Int32.toNatClampNeg 24) z_44))) hXL fs11_1 (by decide) (by decide)
                            generalize va_up f_167 s11_1 (.inl (kI, 25, .inl (upd g_173 (Int32.toNatClampNeg 24) z_44))) = f_174 at hP hD hPI es_f_174 eq_175 eq_176 eq_177 hfr hXL
                            refine lv_aload_n hx hb dX3_find_165 rfl (lv_at hl 4 rfl) ?_
                            refine lv_dup hx hb dX3_find_166 rfl ?_
                            obtain ⟨k_178, hk_178⟩ := va_plg hg0.1 eq_175
                            refine va_get (D := (dC, dI)) (ci := 3) (v := .int fm_36) (C := RX3) (T := TX3) (N := 23) hx hb hts iX3_ hown hK hP k_178 hk_178 rfl 12 (by decide) (hts (.fieldLink RX3 167 "FieldLeavesModel" "foundMany" "I") (by decide +kernel)) (fun _ h9 => h9) rfl dX3_find_167 ?_
                            refine lv_aload_n hx hb dX3_find_170 rfl (lv_at hl 4 rfl) ?_
                            obtain ⟨k_179, hk_179⟩ := va_plg hg0.1 eq_175
                            refine va_get (D := (dC, dI)) (ci := 3) (v := .int fm_36) (C := RX3) (T := TX3) (N := 23) hx hb hts iX3_ hown hK hP k_179 hk_179 rfl 12 (by decide) (hts (.fieldLink RX3 167 "FieldLeavesModel" "foundMany" "I") (by decide +kernel)) (fun _ h9 => h9) rfl dX3_find_171 ?_
                            refine lv_bipush (v := 24) hx hb dX3_find_174 (by decide) ?_
                            refine lv_icmp_ge (tgt := 183) hx hb dX3_find_176 (by decide) (fun c_180 => ?_) (fun c_180 => ?_)
                            · have c_180 := Int32.le_iff_toInt_le.mp c_180
                              refine lv_iconst (v := 0) hx hb dX3_find_183 (by decide) ?_
                              refine lv_iadd hx hb dX3_find_184 ?_
                              refine lv_topi (fun z_181 ez_181 => ?_)
                              have kz_181 := add_toInt ez_181 (by omega) (by omega)
                              obtain ⟨k_182, hk_182⟩ := va_plg hg0.1 eq_175
                              have hD9 := hD
                              have rg_183 : 0 ≤ Int32.toInt z_181 ∧ Int32.toInt z_181 ≤ 24 := by constructor <;> omega
                              refine va_put (D := (dC, dI)) (ci := 3) (v := .int z_181) (ty := .int) (C := RX3) (T := TX3) (N := 23) hx hb hts iX3_ tyX3 tyX3_ok nmX3 hown hK hP hD hS k_182 hk_182 rfl 12 (by decide) (hts (.fieldLink RX3 167 "FieldLeavesModel" "foundMany" "I") (by decide +kernel)) (fun _ h9 => h9) rfl (by decide +kernel) rfl rfl (Nat.le_of_ble_eq_true rfl) dX3_find_185 (fun H locs hP hD hS => ?_)
                              have hP : va_P (dC, dI) vwCl (va_pl L (va_up f_174 g0 (.inr (3, [.ref s1_1, .ref s2_1, .ref s3_1, .ref s4_1, .ref s5_1, .ref s6_1, .ref s7_1, .int pa_36, .int lm_36, .ref s8_1, .ref s9_1, .ref s10_1, .int z_181, .ref s11_1, .int nm_36, .ref s12_1, .ref s13_1, .ref s14_1, .int 0, .ref s15_1, .ref s16_1, .ref s17_1, .ref s18_1])))) H := by rw [← va_pls hD9 hg0.1 hk_182 _]; exact hP
                              have hD : va_D A (va_pl L (va_up f_174 g0 (.inr (3, [.ref s1_1, .ref s2_1, .ref s3_1, .ref s4_1, .ref s5_1, .ref s6_1, .ref s7_1, .int pa_36, .int lm_36, .ref s8_1, .ref s9_1, .ref s10_1, .int z_181, .ref s11_1, .int nm_36, .ref s12_1, .ref s13_1, .ref s14_1, .int 0, .ref s15_1, .ref s16_1, .ref s17_1, .ref s18_1])))) := by rw [← va_pls hD9 hg0.1 hk_182 _]; exact hD
                              have hPI := hPI.put (e := .inr (3, [.ref s1_1, .ref s2_1, .ref s3_1, .ref s4_1, .ref s5_1, .ref s6_1, .ref s7_1, .int pa_36, .int lm_36, .ref s8_1, .ref s9_1, .ref s10_1, .int z_181, .ref s11_1, .int nm_36, .ref s12_1, .ref s13_1, .ref s14_1, .int 0, .ref s15_1, .ref s16_1, .ref s17_1, .ref s18_1])) hg0 ⟨s1_1, s2_1, s3_1, s4_1, s5_1, s6_1, s7_1, pa_36, lm_36, s8_1, s9_1, s10_1, z_181, s11_1, nm_36, s12_1, s13_1, s14_1, 0, s15_1, s16_1, s17_1, s18_1, rfl, fs1_1, fs2_1, fs3_1, fs4_1, fs5_1, fs6_1, fs7_1, flm_36, fs8_1, fs9_1, fs10_1, rg_183, fs11_1, fnm_36, fs12_1, fs13_1, fs14_1, (Or.inr rfl), fs15_1, fs16_1, fs17_1, fs18_1⟩
                              have es_f_184 : va_up f_174 g0 (.inr (3, [.ref s1_1, .ref s2_1, .ref s3_1, .ref s4_1, .ref s5_1, .ref s6_1, .ref s7_1, .int pa_36, .int lm_36, .ref s8_1, .ref s9_1, .ref s10_1, .int z_181, .ref s11_1, .int nm_36, .ref s12_1, .ref s13_1, .ref s14_1, .int 0, .ref s15_1, .ref s16_1, .ref s17_1, .ref s18_1])) g0 = .inr (3, [.ref s1_1, .ref s2_1, .ref s3_1, .ref s4_1, .ref s5_1, .ref s6_1, .ref s7_1, .int pa_36, .int lm_36, .ref s8_1, .ref s9_1, .ref s10_1, .int z_181, .ref s11_1, .int nm_36, .ref s12_1, .ref s13_1, .ref s14_1, .int 0, .ref s15_1, .ref s16_1, .ref s17_1, .ref s18_1]) := va_up_self _ _ _
                              have eq_185 := (va_up_ne f_174 (.inr (3, [.ref s1_1, .ref s2_1, .ref s3_1, .ref s4_1, .ref s5_1, .ref s6_1, .ref s7_1, .int pa_36, .int lm_36, .ref s8_1, .ref s9_1, .ref s10_1, .int z_181, .ref s11_1, .int nm_36, .ref s12_1, .ref s13_1, .ref s14_1, .int 0, .ref s15_1, .ref s16_1, .ref s17_1, .ref s18_1])) (isr_ne fs2_1 hg0 (by decide))).trans eq_176
                              have eq_186 := (va_up_ne f_174 (.inr (3, [.ref s1_1, .ref s2_1, .ref s3_1, .ref s4_1, .ref s5_1, .ref s6_1, .ref s7_1, .int pa_36, .int lm_36, .ref s8_1, .ref s9_1, .ref s10_1, .int z_181, .ref s11_1, .int nm_36, .ref s12_1, .ref s13_1, .ref s14_1, .int 0, .ref s15_1, .ref s16_1, .ref s17_1, .ref s18_1])) (isr_ne fs3_1 hg0 (by decide))).trans eq_177
                              have eq_187 := (va_up_ne f_174 (.inr (3, [.ref s1_1, .ref s2_1, .ref s3_1, .ref s4_1, .ref s5_1, .ref s6_1, .ref s7_1, .int pa_36, .int lm_36, .ref s8_1, .ref s9_1, .ref s10_1, .int z_181, .ref s11_1, .int nm_36, .ref s12_1, .ref s13_1, .ref s14_1, .int 0, .ref s15_1, .ref s16_1, .ref s17_1, .ref s18_1])) (isr_ne fs11_1 hg0 (by decide))).trans es_f_174
                              have hfr := fr_up (S := (sK [10, 21, 22, 23, 24])) (e := .inr (3, [.ref s1_1, .ref s2_1, .ref s3_1, .ref s4_1, .ref s5_1, .ref s6_1, .ref s7_1, .int pa_36, .int lm_36, .ref s8_1, .ref s9_1, .ref s10_1, .int z_181, .ref s11_1, .int nm_36, .ref s12_1, .ref s13_1, .ref s14_1, .int 0, .ref s15_1, .ref s16_1, .ref s17_1, .ref s18_1])) hfr hg0 (by decide)
                              have hXL := XL.up (e := .inr (3, [.ref s1_1, .ref s2_1, .ref s3_1, .ref s4_1, .ref s5_1, .ref s6_1, .ref s7_1, .int pa_36, .int lm_36, .ref s8_1, .ref s9_1, .ref s10_1, .int z_181, .ref s11_1, .int nm_36, .ref s12_1, .ref s13_1, .ref s14_1, .int 0, .ref s15_1, .ref s16_1, .ref s17_1, .ref s18_1])) hXL hg0 (by decide) (by decide)
                              generalize va_up f_174 g0 (.inr (3, [.ref s1_1, .ref s2_1, .ref s3_1, .ref s4_1, .ref s5_1, .ref s6_1, .ref s7_1, .int pa_36, .int lm_36, .ref s8_1, .ref s9_1, .ref s10_1, .int z_181, .ref s11_1, .int nm_36, .ref s12_1, .ref s13_1, .ref s14_1, .int 0, .ref s15_1, .ref s16_1, .ref s17_1, .ref s18_1])) = f_184 at hP hD hPI es_f_184 eq_185 eq_186 eq_187 hfr hXL
                              obtain ⟨i_188, ei_188⟩ : ∃ y : Int32, y = i4 + 1 := ⟨_, rfl⟩
                              refine lv_iinc (v := i_188) (lv' := [(4, .int i_188), (5, .int z_44), (3, .int z_31), (2, .int i2), (0, .ref g0), (1, .int o0)]) hx hb dX3_find_188 hl (k := 1) rfl (by rw [ei_188]; rfl) (by decide) rfl (fun ls hl => ?_)
                              have ki_188 := inc_toInt ei_188 (by omega)
                              refine lv_goto (tgt := 50) hx hb dX3_find_191 (by decide) ?_
                              exact ih_50 i_188 f_184 _ _ _  (by omega) (by omega) ⟨hfr, hXL⟩ hPI hP hD hS (lv_sub hl [0, 2, 3, 4, 5] rfl)
                            · have c_180 := mt Int32.le_iff_toInt_le.mpr c_180
                              refine lv_iconst (v := 1) hx hb dX3_find_179 (by decide) ?_
                              refine lv_goto (tgt := 184) hx hb dX3_find_180 (by decide) ?_
                              refine lv_iadd hx hb dX3_find_184 ?_
                              refine lv_topi (fun z_189 ez_189 => ?_)
                              have kz_189 := add_toInt ez_189 (by omega) (by omega)
                              obtain ⟨k_190, hk_190⟩ := va_plg hg0.1 eq_175
                              have hD9 := hD
                              have rg_191 : 0 ≤ Int32.toInt z_189 ∧ Int32.toInt z_189 ≤ 24 := by constructor <;> omega
                              refine va_put (D := (dC, dI)) (ci := 3) (v := .int z_189) (ty := .int) (C := RX3) (T := TX3) (N := 23) hx hb hts iX3_ tyX3 tyX3_ok nmX3 hown hK hP hD hS k_190 hk_190 rfl 12 (by decide) (hts (.fieldLink RX3 167 "FieldLeavesModel" "foundMany" "I") (by decide +kernel)) (fun _ h9 => h9) rfl (by decide +kernel) rfl rfl (Nat.le_of_ble_eq_true rfl) dX3_find_185 (fun H locs hP hD hS => ?_)
                              have hP : va_P (dC, dI) vwCl (va_pl L (va_up f_174 g0 (.inr (3, [.ref s1_1, .ref s2_1, .ref s3_1, .ref s4_1, .ref s5_1, .ref s6_1, .ref s7_1, .int pa_36, .int lm_36, .ref s8_1, .ref s9_1, .ref s10_1, .int z_189, .ref s11_1, .int nm_36, .ref s12_1, .ref s13_1, .ref s14_1, .int 0, .ref s15_1, .ref s16_1, .ref s17_1, .ref s18_1])))) H := by rw [← va_pls hD9 hg0.1 hk_190 _]; exact hP
                              have hD : va_D A (va_pl L (va_up f_174 g0 (.inr (3, [.ref s1_1, .ref s2_1, .ref s3_1, .ref s4_1, .ref s5_1, .ref s6_1, .ref s7_1, .int pa_36, .int lm_36, .ref s8_1, .ref s9_1, .ref s10_1, .int z_189, .ref s11_1, .int nm_36, .ref s12_1, .ref s13_1, .ref s14_1, .int 0, .ref s15_1, .ref s16_1, .ref s17_1, .ref s18_1])))) := by rw [← va_pls hD9 hg0.1 hk_190 _]; exact hD
                              have hPI := hPI.put (e := .inr (3, [.ref s1_1, .ref s2_1, .ref s3_1, .ref s4_1, .ref s5_1, .ref s6_1, .ref s7_1, .int pa_36, .int lm_36, .ref s8_1, .ref s9_1, .ref s10_1, .int z_189, .ref s11_1, .int nm_36, .ref s12_1, .ref s13_1, .ref s14_1, .int 0, .ref s15_1, .ref s16_1, .ref s17_1, .ref s18_1])) hg0 ⟨s1_1, s2_1, s3_1, s4_1, s5_1, s6_1, s7_1, pa_36, lm_36, s8_1, s9_1, s10_1, z_189, s11_1, nm_36, s12_1, s13_1, s14_1, 0, s15_1, s16_1, s17_1, s18_1, rfl, fs1_1, fs2_1, fs3_1, fs4_1, fs5_1, fs6_1, fs7_1, flm_36, fs8_1, fs9_1, fs10_1, rg_191, fs11_1, fnm_36, fs12_1, fs13_1, fs14_1, (Or.inr rfl), fs15_1, fs16_1, fs17_1, fs18_1⟩
                              have es_f_192 : va_up f_174 g0 (.inr (3, [.ref s1_1, .ref s2_1, .ref s3_1, .ref s4_1, .ref s5_1, .ref s6_1, .ref s7_1, .int pa_36, .int lm_36, .ref s8_1, .ref s9_1, .ref s10_1, .int z_189, .ref s11_1, .int nm_36, .ref s12_1, .ref s13_1, .ref s14_1, .int 0, .ref s15_1, .ref s16_1, .ref s17_1, .ref s18_1])) g0 = .inr (3, [.ref s1_1, .ref s2_1, .ref s3_1, .ref s4_1, .ref s5_1, .ref s6_1, .ref s7_1, .int pa_36, .int lm_36, .ref s8_1, .ref s9_1, .ref s10_1, .int z_189, .ref s11_1, .int nm_36, .ref s12_1, .ref s13_1, .ref s14_1, .int 0, .ref s15_1, .ref s16_1, .ref s17_1, .ref s18_1]) := va_up_self _ _ _
                              have eq_193 := (va_up_ne f_174 (.inr (3, [.ref s1_1, .ref s2_1, .ref s3_1, .ref s4_1, .ref s5_1, .ref s6_1, .ref s7_1, .int pa_36, .int lm_36, .ref s8_1, .ref s9_1, .ref s10_1, .int z_189, .ref s11_1, .int nm_36, .ref s12_1, .ref s13_1, .ref s14_1, .int 0, .ref s15_1, .ref s16_1, .ref s17_1, .ref s18_1])) (isr_ne fs2_1 hg0 (by decide))).trans eq_176
                              have eq_194 := (va_up_ne f_174 (.inr (3, [.ref s1_1, .ref s2_1, .ref s3_1, .ref s4_1, .ref s5_1, .ref s6_1, .ref s7_1, .int pa_36, .int lm_36, .ref s8_1, .ref s9_1, .ref s10_1, .int z_189, .ref s11_1, .int nm_36, .ref s12_1, .ref s13_1, .ref s14_1, .int 0, .ref s15_1, .ref s16_1, .ref s17_1, .ref s18_1])) (isr_ne fs3_1 hg0 (by decide))).trans eq_177
                              have eq_195 := (va_up_ne f_174 (.inr (3, [.ref s1_1, .ref s2_1, .ref s3_1, .ref s4_1, .ref s5_1, .ref s6_1, .ref s7_1, .int pa_36, .int lm_36, .ref s8_1, .ref s9_1, .ref s10_1, .int z_189, .ref s11_1, .int nm_36, .ref s12_1, .ref s13_1, .ref s14_1, .int 0, .ref s15_1, .ref s16_1, .ref s17_1, .ref s18_1])) (isr_ne fs11_1 hg0 (by decide))).trans es_f_174
                              have hfr := fr_up (S := (sK [10, 21, 22, 23, 24])) (e := .inr (3, [.ref s1_1, .ref s2_1, .ref s3_1, .ref s4_1, .ref s5_1, .ref s6_1, .ref s7_1, .int pa_36, .int lm_36, .ref s8_1, .ref s9_1, .ref s10_1, .int z_189, .ref s11_1, .int nm_36, .ref s12_1, .ref s13_1, .ref s14_1, .int 0, .ref s15_1, .ref s16_1, .ref s17_1, .ref s18_1])) hfr hg0 (by decide)
                              have hXL := XL.up (e := .inr (3, [.ref s1_1, .ref s2_1, .ref s3_1, .ref s4_1, .ref s5_1, .ref s6_1, .ref s7_1, .int pa_36, .int lm_36, .ref s8_1, .ref s9_1, .ref s10_1, .int z_189, .ref s11_1, .int nm_36, .ref s12_1, .ref s13_1, .ref s14_1, .int 0, .ref s15_1, .ref s16_1, .ref s17_1, .ref s18_1])) hXL hg0 (by decide) (by decide)
                              generalize va_up f_174 g0 (.inr (3, [.ref s1_1, .ref s2_1, .ref s3_1, .ref s4_1, .ref s5_1, .ref s6_1, .ref s7_1, .int pa_36, .int lm_36, .ref s8_1, .ref s9_1, .ref s10_1, .int z_189, .ref s11_1, .int nm_36, .ref s12_1, .ref s13_1, .ref s14_1, .int 0, .ref s15_1, .ref s16_1, .ref s17_1, .ref s18_1])) = f_192 at hP hD hPI es_f_192 eq_193 eq_194 eq_195 hfr hXL
                              obtain ⟨i_196, ei_196⟩ : ∃ y : Int32, y = i4 + 1 := ⟨_, rfl⟩
                              refine lv_iinc (v := i_196) (lv' := [(4, .int i_196), (5, .int z_44), (3, .int z_31), (2, .int i2), (0, .ref g0), (1, .int o0)]) hx hb dX3_find_188 hl (k := 1) rfl (by rw [ei_196]; rfl) (by decide) rfl (fun ls hl => ?_)
                              have ki_196 := inc_toInt ei_196 (by omega)
                              refine lv_goto (tgt := 50) hx hb dX3_find_191 (by decide) ?_
                              exact ih_50 i_196 f_192 _ _ _  (by omega) (by omega) ⟨hfr, hXL⟩ hPI hP hD hS (lv_sub hl [0, 2, 3, 4, 5] rfl)
                          · have c_172 := mt Int32.le_iff_toInt_le.mpr c_172
                            refine lv_aload_n hx hb dX3_find_153 rfl (lv_at hl 4 rfl) ?_
                            obtain ⟨k_197, hk_197⟩ := va_plg hg0.1 es_f_167
                            refine va_get (D := (dC, dI)) (ci := 3) (v := .int fm_36) (C := RX3) (T := TX3) (N := 23) hx hb hts iX3_ hown hK hP k_197 hk_197 rfl 12 (by decide) (hts (.fieldLink RX3 167 "FieldLeavesModel" "foundMany" "I") (by decide +kernel)) (fun _ h9 => h9) rfl dX3_find_154 ?_
                            refine lv_goto (tgt := 162) hx hb dX3_find_157 (by decide) ?_
                            refine lv_iload hx hb dX3_find_162 (lv_at hl 0 rfl) ?_
                            obtain ⟨g_198, e_198, fg_198⟩ := hPI.a21 fs11_1
                            obtain ⟨k_198, hk_198⟩ := va_plg fs11_1.1 e_198
                            have h_198 : vp_in fm_36 25 := (vp_in_iff.mpr (by constructor <;> omega))
                            have fw_198 := updS (P := fun v => 0 ≤ v.toInt ∧ v.toInt < 6400) (k := Int32.toNatClampNeg fm_36) (v := z_44) fg_198 (by omega)
                            have hD9 := hD
                            refine va_iast hx hb hK hP hD hS k_198 0 hk_198 rfl h_198 dX3_find_164 (fun H locs hP hD hS => ?_)
                            have hP : va_P (dC, dI) vwCl (va_pl L (va_up f_167 s11_1 (.inl (kI, 25, .inl (upd g_198 (Int32.toNatClampNeg fm_36) z_44))))) H := by rw [← va_pls hD9 fs11_1.1 hk_198 _]; exact hP
                            have hD : va_D A (va_pl L (va_up f_167 s11_1 (.inl (kI, 25, .inl (upd g_198 (Int32.toNatClampNeg fm_36) z_44))))) := by rw [← va_pls hD9 fs11_1.1 hk_198 _]; exact hD
                            have hPI := hPI.put (e := .inl (kI, 25, .inl (upd g_198 (Int32.toNatClampNeg fm_36) z_44))) fs11_1 ⟨_, rfl, fw_198⟩
                            have es_f_199 : va_up f_167 s11_1 (.inl (kI, 25, .inl (upd g_198 (Int32.toNatClampNeg fm_36) z_44))) s11_1 = .inl (kI, 25, .inl (upd g_198 (Int32.toNatClampNeg fm_36) z_44)) := va_up_self _ _ _
                            have eq_200 := (va_up_ne f_167 (.inl (kI, 25, .inl (upd g_198 (Int32.toNatClampNeg fm_36) z_44))) (isr_ne hg0 fs11_1 (by decide))).trans es_f_167
                            have eq_201 := (va_up_ne f_167 (.inl (kI, 25, .inl (upd g_198 (Int32.toNatClampNeg fm_36) z_44))) (isr_ne fs2_1 fs11_1 (by decide))).trans eq_168
                            have eq_202 := (va_up_ne f_167 (.inl (kI, 25, .inl (upd g_198 (Int32.toNatClampNeg fm_36) z_44))) (isr_ne fs3_1 fs11_1 (by decide))).trans eq_169
                            have hfr := fr_up (S := (sK [10, 21, 22, 23, 24])) (e := .inl (kI, 25, .inl (upd g_198 (Int32.toNatClampNeg fm_36) z_44))) hfr fs11_1 (by decide)
                            have hXL := XL.up (e := .inl (kI, 25, .inl (upd g_198 (Int32.toNatClampNeg fm_36) z_44))) hXL fs11_1 (by decide) (by decide)
                            generalize va_up f_167 s11_1 (.inl (kI, 25, .inl (upd g_198 (Int32.toNatClampNeg fm_36) z_44))) = f_199 at hP hD hPI es_f_199 eq_200 eq_201 eq_202 hfr hXL
                            refine lv_aload_n hx hb dX3_find_165 rfl (lv_at hl 4 rfl) ?_
                            refine lv_dup hx hb dX3_find_166 rfl ?_
                            obtain ⟨k_203, hk_203⟩ := va_plg hg0.1 eq_200
                            refine va_get (D := (dC, dI)) (ci := 3) (v := .int fm_36) (C := RX3) (T := TX3) (N := 23) hx hb hts iX3_ hown hK hP k_203 hk_203 rfl 12 (by decide) (hts (.fieldLink RX3 167 "FieldLeavesModel" "foundMany" "I") (by decide +kernel)) (fun _ h9 => h9) rfl dX3_find_167 ?_
                            refine lv_aload_n hx hb dX3_find_170 rfl (lv_at hl 4 rfl) ?_
                            obtain ⟨k_204, hk_204⟩ := va_plg hg0.1 eq_200
                            refine va_get (D := (dC, dI)) (ci := 3) (v := .int fm_36) (C := RX3) (T := TX3) (N := 23) hx hb hts iX3_ hown hK hP k_204 hk_204 rfl 12 (by decide) (hts (.fieldLink RX3 167 "FieldLeavesModel" "foundMany" "I") (by decide +kernel)) (fun _ h9 => h9) rfl dX3_find_171 ?_
                            refine lv_bipush (v := 24) hx hb dX3_find_174 (by decide) ?_
                            refine lv_icmp_ge (tgt := 183) hx hb dX3_find_176 (by decide) (fun c_205 => ?_) (fun c_205 => ?_)
                            · have c_205 := Int32.le_iff_toInt_le.mp c_205
                              refine lv_iconst (v := 0) hx hb dX3_find_183 (by decide) ?_
                              refine lv_iadd hx hb dX3_find_184 ?_
                              refine lv_topi (fun z_206 ez_206 => ?_)
                              have kz_206 := add_toInt ez_206 (by omega) (by omega)
                              obtain ⟨k_207, hk_207⟩ := va_plg hg0.1 eq_200
                              have hD9 := hD
                              have rg_208 : 0 ≤ Int32.toInt z_206 ∧ Int32.toInt z_206 ≤ 24 := by constructor <;> omega
                              refine va_put (D := (dC, dI)) (ci := 3) (v := .int z_206) (ty := .int) (C := RX3) (T := TX3) (N := 23) hx hb hts iX3_ tyX3 tyX3_ok nmX3 hown hK hP hD hS k_207 hk_207 rfl 12 (by decide) (hts (.fieldLink RX3 167 "FieldLeavesModel" "foundMany" "I") (by decide +kernel)) (fun _ h9 => h9) rfl (by decide +kernel) rfl rfl (Nat.le_of_ble_eq_true rfl) dX3_find_185 (fun H locs hP hD hS => ?_)
                              have hP : va_P (dC, dI) vwCl (va_pl L (va_up f_199 g0 (.inr (3, [.ref s1_1, .ref s2_1, .ref s3_1, .ref s4_1, .ref s5_1, .ref s6_1, .ref s7_1, .int pa_36, .int lm_36, .ref s8_1, .ref s9_1, .ref s10_1, .int z_206, .ref s11_1, .int nm_36, .ref s12_1, .ref s13_1, .ref s14_1, .int 0, .ref s15_1, .ref s16_1, .ref s17_1, .ref s18_1])))) H := by rw [← va_pls hD9 hg0.1 hk_207 _]; exact hP
                              have hD : va_D A (va_pl L (va_up f_199 g0 (.inr (3, [.ref s1_1, .ref s2_1, .ref s3_1, .ref s4_1, .ref s5_1, .ref s6_1, .ref s7_1, .int pa_36, .int lm_36, .ref s8_1, .ref s9_1, .ref s10_1, .int z_206, .ref s11_1, .int nm_36, .ref s12_1, .ref s13_1, .ref s14_1, .int 0, .ref s15_1, .ref s16_1, .ref s17_1, .ref s18_1])))) := by rw [← va_pls hD9 hg0.1 hk_207 _]; exact hD
                              have hPI := hPI.put (e := .inr (3, [.ref s1_1, .ref s2_1, .ref s3_1, .ref s4_1, .ref s5_1, .ref s6_1, .ref s7_1, .int pa_36, .int lm_36, .ref s8_1, .ref s9_1, .ref s10_1, .int z_206, .ref s11_1, .int nm_36, .ref s12_1, .ref s13_1, .ref s14_1, .int 0, .ref s15_1, .ref s16_1, .ref s17_1, .ref s18_1])) hg0 ⟨s1_1, s2_1, s3_1, s4_1, s5_1, s6_1, s7_1, pa_36, lm_36, s8_1, s9_1, s10_1, z_206, s11_1, nm_36, s12_1, s13_1, s14_1, 0, s15_1, s16_1, s17_1, s18_1, rfl, fs1_1, fs2_1, fs3_1, fs4_1, fs5_1, fs6_1, fs7_1, flm_36, fs8_1, fs9_1, fs10_1, rg_208, fs11_1, fnm_36, fs12_1, fs13_1, fs14_1, (Or.inr rfl), fs15_1, fs16_1, fs17_1, fs18_1⟩
                              have es_f_209 : va_up f_199 g0 (.inr (3, [.ref s1_1, .ref s2_1, .ref s3_1, .ref s4_1, .ref s5_1, .ref s6_1, .ref s7_1, .int pa_36, .int lm_36, .ref s8_1, .ref s9_1, .ref s10_1, .int z_206, .ref s11_1, .int nm_36, .ref s12_1, .ref s13_1, .ref s14_1, .int 0, .ref s15_1, .ref s16_1, .ref s17_1, .ref s18_1])) g0 = .inr (3, [.ref s1_1, .ref s2_1, .ref s3_1, .ref s4_1, .ref s5_1, .ref s6_1, .ref s7_1, .int pa_36, .int lm_36, .ref s8_1, .ref s9_1, .ref s10_1, .int z_206, .ref s11_1, .int nm_36, .ref s12_1, .ref s13_1, .ref s14_1, .int 0, .ref s15_1, .ref s16_1, .ref s17_1, .ref s18_1]) := va_up_self _ _ _
                              have eq_210 := (va_up_ne f_199 (.inr (3, [.ref s1_1, .ref s2_1, .ref s3_1, .ref s4_1, .ref s5_1, .ref s6_1, .ref s7_1, .int pa_36, .int lm_36, .ref s8_1, .ref s9_1, .ref s10_1, .int z_206, .ref s11_1, .int nm_36, .ref s12_1, .ref s13_1, .ref s14_1, .int 0, .ref s15_1, .ref s16_1, .ref s17_1, .ref s18_1])) (isr_ne fs2_1 hg0 (by decide))).trans eq_201
                              have eq_211 := (va_up_ne f_199 (.inr (3, [.ref s1_1, .ref s2_1, .ref s3_1, .ref s4_1, .ref s5_1, .ref s6_1, .ref s7_1, .int pa_36, .int lm_36, .ref s8_1, .ref s9_1, .ref s10_1, .int z_206, .ref s11_1, .int nm_36, .ref s12_1, .ref s13_1, .ref s14_1, .int 0, .ref s15_1, .ref s16_1, .ref s17_1, .ref s18_1])) (isr_ne fs3_1 hg0 (by decide))).trans eq_202
                              have eq_212 := (va_up_ne f_199 (.inr (3, [.ref s1_1, .ref s2_1, .ref s3_1, .ref s4_1, .ref s5_1, .ref s6_1, .ref s7_1, .int pa_36, .int lm_36, .ref s8_1, .ref s9_1, .ref s10_1, .int z_206, .ref s11_1, .int nm_36, .ref s12_1, .ref s13_1, .ref s14_1, .int 0, .ref s15_1, .ref s16_1, .ref s17_1, .ref s18_1])) (isr_ne fs11_1 hg0 (by decide))).trans es_f_199
                              have hfr := fr_up (S := (sK [10, 21, 22, 23, 24])) (e := .inr (3, [.ref s1_1, .ref s2_1, .ref s3_1, .ref s4_1, .ref s5_1, .ref s6_1, .ref s7_1, .int pa_36, .int lm_36, .ref s8_1, .ref s9_1, .ref s10_1, .int z_206, .ref s11_1, .int nm_36, .ref s12_1, .ref s13_1, .ref s14_1, .int 0, .ref s15_1, .ref s16_1, .ref s17_1, .ref s18_1])) hfr hg0 (by decide)
                              have hXL := XL.up (e := .inr (3, [.ref s1_1, .ref s2_1, .ref s3_1, .ref s4_1, .ref s5_1, .ref s6_1, .ref s7_1, .int pa_36, .int lm_36, .ref s8_1, .ref s9_1, .ref s10_1, .int z_206, .ref s11_1, .int nm_36, .ref s12_1, .ref s13_1, .ref s14_1, .int 0, .ref s15_1, .ref s16_1, .ref s17_1, .ref s18_1])) hXL hg0 (by decide) (by decide)
                              generalize va_up f_199 g0 (.inr (3, [.ref s1_1, .ref s2_1, .ref s3_1, .ref s4_1, .ref s5_1, .ref s6_1, .ref s7_1, .int pa_36, .int lm_36, .ref s8_1, .ref s9_1, .ref s10_1, .int z_206, .ref s11_1, .int nm_36, .ref s12_1, .ref s13_1, .ref s14_1, .int 0, .ref s15_1, .ref s16_1, .ref s17_1, .ref s18_1])) = f_209 at hP hD hPI es_f_209 eq_210 eq_211 eq_212 hfr hXL
                              obtain ⟨i_213, ei_213⟩ : ∃ y : Int32, y = i4 + 1 := ⟨_, rfl⟩
                              refine lv_iinc (v := i_213) (lv' := [(4, .int i_213), (5, .int z_44), (3, .int z_31), (2, .int i2), (0, .ref g0), (1, .int o0)]) hx hb dX3_find_188 hl (k := 1) rfl (by rw [ei_213]; rfl) (by decide) rfl (fun ls hl => ?_)
                              have ki_213 := inc_toInt ei_213 (by omega)
                              refine lv_goto (tgt := 50) hx hb dX3_find_191 (by decide) ?_
                              exact ih_50 i_213 f_209 _ _ _  (by omega) (by omega) ⟨hfr, hXL⟩ hPI hP hD hS (lv_sub hl [0, 2, 3, 4, 5] rfl)
                            · have c_205 := mt Int32.le_iff_toInt_le.mpr c_205
                              refine lv_iconst (v := 1) hx hb dX3_find_179 (by decide) ?_
                              refine lv_goto (tgt := 184) hx hb dX3_find_180 (by decide) ?_
                              refine lv_iadd hx hb dX3_find_184 ?_
                              refine lv_topi (fun z_214 ez_214 => ?_)
                              have kz_214 := add_toInt ez_214 (by omega) (by omega)
                              obtain ⟨k_215, hk_215⟩ := va_plg hg0.1 eq_200
                              have hD9 := hD
                              have rg_216 : 0 ≤ Int32.toInt z_214 ∧ Int32.toInt z_214 ≤ 24 := by constructor <;> omega
                              refine va_put (D := (dC, dI)) (ci := 3) (v := .int z_214) (ty := .int) (C := RX3) (T := TX3) (N := 23) hx hb hts iX3_ tyX3 tyX3_ok nmX3 hown hK hP hD hS k_215 hk_215 rfl 12 (by decide) (hts (.fieldLink RX3 167 "FieldLeavesModel" "foundMany" "I") (by decide +kernel)) (fun _ h9 => h9) rfl (by decide +kernel) rfl rfl (Nat.le_of_ble_eq_true rfl) dX3_find_185 (fun H locs hP hD hS => ?_)
                              have hP : va_P (dC, dI) vwCl (va_pl L (va_up f_199 g0 (.inr (3, [.ref s1_1, .ref s2_1, .ref s3_1, .ref s4_1, .ref s5_1, .ref s6_1, .ref s7_1, .int pa_36, .int lm_36, .ref s8_1, .ref s9_1, .ref s10_1, .int z_214, .ref s11_1, .int nm_36, .ref s12_1, .ref s13_1, .ref s14_1, .int 0, .ref s15_1, .ref s16_1, .ref s17_1, .ref s18_1])))) H := by rw [← va_pls hD9 hg0.1 hk_215 _]; exact hP
                              have hD : va_D A (va_pl L (va_up f_199 g0 (.inr (3, [.ref s1_1, .ref s2_1, .ref s3_1, .ref s4_1, .ref s5_1, .ref s6_1, .ref s7_1, .int pa_36, .int lm_36, .ref s8_1, .ref s9_1, .ref s10_1, .int z_214, .ref s11_1, .int nm_36, .ref s12_1, .ref s13_1, .ref s14_1, .int 0, .ref s15_1, .ref s16_1, .ref s17_1, .ref s18_1])))) := by rw [← va_pls hD9 hg0.1 hk_215 _]; exact hD
                              have hPI := hPI.put (e := .inr (3, [.ref s1_1, .ref s2_1, .ref s3_1, .ref s4_1, .ref s5_1, .ref s6_1, .ref s7_1, .int pa_36, .int lm_36, .ref s8_1, .ref s9_1, .ref s10_1, .int z_214, .ref s11_1, .int nm_36, .ref s12_1, .ref s13_1, .ref s14_1, .int 0, .ref s15_1, .ref s16_1, .ref s17_1, .ref s18_1])) hg0 ⟨s1_1, s2_1, s3_1, s4_1, s5_1, s6_1, s7_1, pa_36, lm_36, s8_1, s9_1, s10_1, z_214, s11_1, nm_36, s12_1, s13_1, s14_1, 0, s15_1, s16_1, s17_1, s18_1, rfl, fs1_1, fs2_1, fs3_1, fs4_1, fs5_1, fs6_1, fs7_1, flm_36, fs8_1, fs9_1, fs10_1, rg_216, fs11_1, fnm_36, fs12_1, fs13_1, fs14_1, (Or.inr rfl), fs15_1, fs16_1, fs17_1, fs18_1⟩
                              have es_f_217 : va_up f_199 g0 (.inr (3, [.ref s1_1, .ref s2_1, .ref s3_1, .ref s4_1, .ref s5_1, .ref s6_1, .ref s7_1, .int pa_36, .int lm_36, .ref s8_1, .ref s9_1, .ref s10_1, .int z_214, .ref s11_1, .int nm_36, .ref s12_1, .ref s13_1, .ref s14_1, .int 0, .ref s15_1, .ref s16_1, .ref s17_1, .ref s18_1])) g0 = .inr (3, [.ref s1_1, .ref s2_1, .ref s3_1, .ref s4_1, .ref s5_1, .ref s6_1, .ref s7_1, .int pa_36, .int lm_36, .ref s8_1, .ref s9_1, .ref s10_1, .int z_214, .ref s11_1, .int nm_36, .ref s12_1, .ref s13_1, .ref s14_1, .int 0, .ref s15_1, .ref s16_1, .ref s17_1, .ref s18_1]) := va_up_self _ _ _
                              have eq_218 := (va_up_ne f_199 (.inr (3, [.ref s1_1, .ref s2_1, .ref s3_1, .ref s4_1, .ref s5_1, .ref s6_1, .ref s7_1, .int pa_36, .int lm_36, .ref s8_1, .ref s9_1, .ref s10_1, .int z_214, .ref s11_1, .int nm_36, .ref s12_1, .ref s13_1, .ref s14_1, .int 0, .ref s15_1, .ref s16_1, .ref s17_1, .ref s18_1])) (isr_ne fs2_1 hg0 (by decide))).trans eq_201
                              have eq_219 := (va_up_ne f_199 (.inr (3, [.ref s1_1, .ref s2_1, .ref s3_1, .ref s4_1, .ref s5_1, .ref s6_1, .ref s7_1, .int pa_36, .int lm_36, .ref s8_1, .ref s9_1, .ref s10_1, .int z_214, .ref s11_1, .int nm_36, .ref s12_1, .ref s13_1, .ref s14_1, .int 0, .ref s15_1, .ref s16_1, .ref s17_1, .ref s18_1])) (isr_ne fs3_1 hg0 (by decide))).trans eq_202
                              have eq_220 := (va_up_ne f_199 (.inr (3, [.ref s1_1, .ref s2_1, .ref s3_1, .ref s4_1, .ref s5_1, .ref s6_1, .ref s7_1, .int pa_36, .int lm_36, .ref s8_1, .ref s9_1, .ref s10_1, .int z_214, .ref s11_1, .int nm_36, .ref s12_1, .ref s13_1, .ref s14_1, .int 0, .ref s15_1, .ref s16_1, .ref s17_1, .ref s18_1])) (isr_ne fs11_1 hg0 (by decide))).trans es_f_199
                              have hfr := fr_up (S := (sK [10, 21, 22, 23, 24])) (e := .inr (3, [.ref s1_1, .ref s2_1, .ref s3_1, .ref s4_1, .ref s5_1, .ref s6_1, .ref s7_1, .int pa_36, .int lm_36, .ref s8_1, .ref s9_1, .ref s10_1, .int z_214, .ref s11_1, .int nm_36, .ref s12_1, .ref s13_1, .ref s14_1, .int 0, .ref s15_1, .ref s16_1, .ref s17_1, .ref s18_1])) hfr hg0 (by decide)
                              have hXL := XL.up (e := .inr (3, [.ref s1_1, .ref s2_1, .ref s3_1, .ref s4_1, .ref s5_1, .ref s6_1, .ref s7_1, .int pa_36, .int lm_36, .ref s8_1, .ref s9_1, .ref s10_1, .int z_214, .ref s11_1, .int nm_36, .ref s12_1, .ref s13_1, .ref s14_1, .int 0, .ref s15_1, .ref s16_1, .ref s17_1, .ref s18_1])) hXL hg0 (by decide) (by decide)
                              generalize va_up f_199 g0 (.inr (3, [.ref s1_1, .ref s2_1, .ref s3_1, .ref s4_1, .ref s5_1, .ref s6_1, .ref s7_1, .int pa_36, .int lm_36, .ref s8_1, .ref s9_1, .ref s10_1, .int z_214, .ref s11_1, .int nm_36, .ref s12_1, .ref s13_1, .ref s14_1, .int 0, .ref s15_1, .ref s16_1, .ref s17_1, .ref s18_1])) = f_217 at hP hD hPI es_f_217 eq_218 eq_219 eq_220 hfr hXL
                              obtain ⟨i_221, ei_221⟩ : ∃ y : Int32, y = i4 + 1 := ⟨_, rfl⟩
                              refine lv_iinc (v := i_221) (lv' := [(4, .int i_221), (5, .int z_44), (3, .int z_31), (2, .int i2), (0, .ref g0), (1, .int o0)]) hx hb dX3_find_188 hl (k := 1) rfl (by rw [ei_221]; rfl) (by decide) rfl (fun ls hl => ?_)
                              have ki_221 := inc_toInt ei_221 (by omega)
                              refine lv_goto (tgt := 50) hx hb dX3_find_191 (by decide) ?_
                              exact ih_50 i_221 f_217 _ _ _  (by omega) (by omega) ⟨hfr, hXL⟩ hPI hP hD hS (lv_sub hl [0, 2, 3, 4, 5] rfl)
                  · refine lv_if_eq (tgt := 95) hx hb dX3_find_76 (by decide) (fun _ => ?_) (fun c9 => absurd c9 (by decide))
                    refine lv_iconst (v := (-1)) hx hb dX3_find_95 (by decide) ?_
                    refine lv_istore (lv' := [(5, .int (-1)), (4, .int i4), (3, .int z_31), (2, .int i2), (0, .ref g0), (1, .int o0)]) hx hb dX3_find_96 hl (by decide) rfl (fun ls hl => ?_)
                    refine lv_iload hx hb dX3_find_98 (lv_at hl 0 rfl) ?_
                    refine lv_iconst (v := (-1)) hx hb dX3_find_100 (by decide) ?_
                    refine lv_icmp_eq (tgt := 188) hx hb dX3_find_101 (by decide) (fun _ => ?_) (fun c9 => absurd c9 (by decide))
                    obtain ⟨i_222, ei_222⟩ : ∃ y : Int32, y = i4 + 1 := ⟨_, rfl⟩
                    refine lv_iinc (v := i_222) (lv' := [(4, .int i_222), (5, .int (-1)), (3, .int z_31), (2, .int i2), (0, .ref g0), (1, .int o0)]) hx hb dX3_find_188 hl (k := 1) rfl (by rw [ei_222]; rfl) (by decide) rfl (fun ls hl => ?_)
                    have ki_222 := inc_toInt ei_222 (by omega)
                    refine lv_goto (tgt := 50) hx hb dX3_find_191 (by decide) ?_
                    exact ih_50 i_222 fl50 _ _ _  (by omega) (by omega) ⟨hfr, hXL⟩ hPI hP hD hS (lv_sub hl [0, 2, 3, 4, 5] rfl)
                · refine lv_if_eq (tgt := 95) hx hb dX3_find_62 (by decide) (fun _ => ?_) (fun c9 => absurd c9 (by decide))
                  refine lv_iconst (v := (-1)) hx hb dX3_find_95 (by decide) ?_
                  refine lv_istore (lv' := [(5, .int (-1)), (4, .int i4), (3, .int z_31), (2, .int i2), (0, .ref g0), (1, .int o0)]) hx hb dX3_find_96 hl (by decide) rfl (fun ls hl => ?_)
                  refine lv_iload hx hb dX3_find_98 (lv_at hl 0 rfl) ?_
                  refine lv_iconst (v := (-1)) hx hb dX3_find_100 (by decide) ?_
                  refine lv_icmp_eq (tgt := 188) hx hb dX3_find_101 (by decide) (fun _ => ?_) (fun c9 => absurd c9 (by decide))
                  obtain ⟨i_223, ei_223⟩ : ∃ y : Int32, y = i4 + 1 := ⟨_, rfl⟩
                  refine lv_iinc (v := i_223) (lv' := [(4, .int i_223), (5, .int (-1)), (3, .int z_31), (2, .int i2), (0, .ref g0), (1, .int o0)]) hx hb dX3_find_188 hl (k := 1) rfl (by rw [ei_223]; rfl) (by decide) rfl (fun ls hl => ?_)
                  have ki_223 := inc_toInt ei_223 (by omega)
                  refine lv_goto (tgt := 50) hx hb dX3_find_191 (by decide) ?_
                  exact ih_50 i_223 fl50 _ _ _  (by omega) (by omega) ⟨hfr, hXL⟩ hPI hP hD hS (lv_sub hl [0, 2, 3, 4, 5] rfl)
          exact loop_50 9 8 fl _ _ _  (by omega) (by omega) ⟨FR.rf, hXL⟩ hPI hP hD hS hl
        · refine lv_if_eq (tgt := 200) hx hb dX3_find_36 (by decide) (fun _ => ?_) (fun c9 => absurd c9 (by decide))
          refine lv_iconst (v := 0) hx hb dX3_find_200 (by decide) ?_
          refine lv_istore_n (lv' := [(2, .int 0), (0, .ref g0), (1, .int o0)]) hx hb dX3_find_201 rfl hl (by decide) rfl (fun ls hl => ?_)
          have hfrE202 := hfr
          have loop_202 : ∀ (n : Nat) (j2 : Int32)   (fl202 : Nat → va_E) (H : Heap) (locs : List Loc) (ls : Array Slot), (0 ≤ j2.toInt ∧ j2.toInt ≤ 24) → (24 - j2.toInt).toNat < n → (FR (sK [10, 21, 22, 23, 24]) K L fl fl202 ∧ (XL kI kJ K L fl202 23 24)) → PR kI kJ kZ K L fl202 → va_P (dC, dI) vwCl (va_pl L fl202) H → va_D A (va_pl L fl202) → va_S A s.heap H locs → lv_has ls 6 [(2, .int j2), (0, .ref g0), (1, .int o0)] → W p l e (headSpec wsX3_find ({ frames := 2, cells := 0, slots := 0, locals := 50 } : Room)).room s m (([.ref g0, .int o0] : List Value).toArray) below meth c H locs 0 0 Q0 (F0 m 202 ls []) := by
            intro n
            induction n with
            | zero => intro j2 fl202 H locs ls  _ h9; exact absurd h9 (Nat.not_lt_zero _)
            | succ n ih_202 =>
              intro j2 fl202 H locs ls  hI hM hFN hPI hP hD hS hl
              obtain ⟨hfr, hFN⟩ := hFN
              have hXL := hFN
              refine lv_iload_n hx hb dX3_find_202 rfl (lv_at hl 0 rfl) ?_
              refine lv_aload_n hx hb dX3_find_203 rfl (lv_at hl 1 rfl) ?_
              obtain ⟨s1_224, s2_224, s3_224, s4_224, s5_224, s6_224, s7_224, pa_224, lm_224, s8_224, s9_224, s10_224, fm_224, s11_224, nm_224, s12_224, s13_224, s14_224, rm_224, s15_224, s16_224, s17_224, s18_224, e_224, fs1_224, fs2_224, fs3_224, fs4_224, fs5_224, fs6_224, fs7_224, flm_224, fs8_224, fs9_224, fs10_224, ffm_224, fs11_224, fnm_224, fs12_224, fs13_224, fs14_224, frm_224, fs15_224, fs16_224, fs17_224, fs18_224⟩ := hPI.a10 hg0
              obtain ⟨k_224, hk_224⟩ := va_plg hg0.1 e_224
              obtain rfl : s1_1 = s1_224 := hU _ _ fs1_1.1 fs1_224.1 (fs1_1.2.trans fs1_224.2.symm)
              obtain rfl : s2_1 = s2_224 := hU _ _ fs2_1.1 fs2_224.1 (fs2_1.2.trans fs2_224.2.symm)
              obtain rfl : s3_1 = s3_224 := hU _ _ fs3_1.1 fs3_224.1 (fs3_1.2.trans fs3_224.2.symm)
              obtain rfl : s4_1 = s4_224 := hU _ _ fs4_1.1 fs4_224.1 (fs4_1.2.trans fs4_224.2.symm)
              obtain rfl : s5_1 = s5_224 := hU _ _ fs5_1.1 fs5_224.1 (fs5_1.2.trans fs5_224.2.symm)
              obtain rfl : s6_1 = s6_224 := hU _ _ fs6_1.1 fs6_224.1 (fs6_1.2.trans fs6_224.2.symm)
              obtain rfl : s7_1 = s7_224 := hU _ _ fs7_1.1 fs7_224.1 (fs7_1.2.trans fs7_224.2.symm)
              obtain rfl : s8_1 = s8_224 := hU _ _ fs8_1.1 fs8_224.1 (fs8_1.2.trans fs8_224.2.symm)
              obtain rfl : s9_1 = s9_224 := hU _ _ fs9_1.1 fs9_224.1 (fs9_1.2.trans fs9_224.2.symm)
              obtain rfl : s10_1 = s10_224 := hU _ _ fs10_1.1 fs10_224.1 (fs10_1.2.trans fs10_224.2.symm)
              obtain rfl : s11_1 = s11_224 := hU _ _ fs11_1.1 fs11_224.1 (fs11_1.2.trans fs11_224.2.symm)
              obtain rfl : s12_1 = s12_224 := hU _ _ fs12_1.1 fs12_224.1 (fs12_1.2.trans fs12_224.2.symm)
              obtain rfl : s13_1 = s13_224 := hU _ _ fs13_1.1 fs13_224.1 (fs13_1.2.trans fs13_224.2.symm)
              obtain rfl : s14_1 = s14_224 := hU _ _ fs14_1.1 fs14_224.1 (fs14_1.2.trans fs14_224.2.symm)
              obtain rfl : s15_1 = s15_224 := hU _ _ fs15_1.1 fs15_224.1 (fs15_1.2.trans fs15_224.2.symm)
              obtain rfl : s16_1 = s16_224 := hU _ _ fs16_1.1 fs16_224.1 (fs16_1.2.trans fs16_224.2.symm)
              obtain rfl : s17_1 = s17_224 := hU _ _ fs17_1.1 fs17_224.1 (fs17_1.2.trans fs17_224.2.symm)
              obtain rfl : s18_1 = s18_224 := hU _ _ fs18_1.1 fs18_224.1 (fs18_1.2.trans fs18_224.2.symm)
              refine va_get (D := (dC, dI)) (ci := 3) (v := .int fm_224) (C := RX3) (T := TX3) (N := 23) hx hb hts iX3_ hown hK hP k_224 hk_224 rfl 12 (by decide) (hts (.fieldLink RX3 167 "FieldLeavesModel" "foundMany" "I") (by decide +kernel)) (fun _ h9 => h9) rfl dX3_find_204 ?_
              refine lv_icmp_ge (tgt := 234) hx hb dX3_find_207 (by decide) (fun c_225 => ?_) (fun c_225 => ?_)
              · have c_225 := Int32.le_iff_toInt_le.mp c_225
                refine lv_aload_n hx hb dX3_find_234 rfl (lv_at hl 1 rfl) ?_
                obtain ⟨k_226, hk_226⟩ := va_plg hg0.1 e_224
                refine va_get (D := (dC, dI)) (ci := 3) (v := .int rm_224) (C := RX3) (T := TX3) (N := 23) hx hb hts iX3_ hown hK hP k_226 hk_226 rfl 18 (by decide) (hts (.fieldLink RX3 163 "FieldLeavesModel" "isRoom" "Z") (by decide +kernel)) (fun _ h9 => h9) rfl dX3_find_235 ?_
                rcases frm_224 with rfl | rfl
                · subst eQ
                  exact W.zret (v := 1) hx hb hr rfl (fun t ht hW => ⟨⟨1, (), rfl, Or.inl rfl, fl202, hPI, ⟨(FR.tr hfrE24 (FR.tr hfrE202 hfr (fun _ h => h)) (fun _ h => h)), hXL⟩, by rw [ht]; exact hP, hD⟩, hS.F ht⟩) hS.2.2 dX3_find_238
                · subst eQ
                  exact W.zret (v := 0) hx hb hr rfl (fun t ht hW => ⟨⟨0, (), rfl, Or.inr rfl, fl202, hPI, ⟨(FR.tr hfrE24 (FR.tr hfrE202 hfr (fun _ h => h)) (fun _ h => h)), hXL⟩, by rw [ht]; exact hP, hD⟩, hS.F ht⟩) hS.2.2 dX3_find_238
              · have c_225 := mt Int32.le_iff_toInt_le.mpr c_225
                refine lv_aload_n hx hb dX3_find_210 rfl (lv_at hl 1 rfl) ?_
                obtain ⟨k_227, hk_227⟩ := va_plg hg0.1 e_224
                refine va_get (D := (dC, dI)) (ci := 3) (v := .int rm_224) (C := RX3) (T := TX3) (N := 23) hx hb hts iX3_ hown hK hP k_227 hk_227 rfl 18 (by decide) (hts (.fieldLink RX3 163 "FieldLeavesModel" "isRoom" "Z") (by decide +kernel)) (fun _ h9 => h9) rfl dX3_find_211 ?_
                rcases frm_224 with rfl | rfl
                · refine lv_if_eq (tgt := 234) hx hb dX3_find_214 (by decide) (fun c9 => absurd c9 (by decide)) (fun _ => ?_)
                  refine lv_aload_n hx hb dX3_find_217 rfl (lv_at hl 1 rfl) ?_
                  refine lv_iload_n hx hb dX3_find_218 rfl (lv_at hl 0 rfl) ?_
                  refine lv_aload_n hx hb dX3_find_219 rfl (lv_at hl 1 rfl) ?_
                  obtain ⟨k_228, hk_228⟩ := va_plg hg0.1 e_224
                  refine va_get (D := (dC, dI)) (ci := 3) (v := .ref s11_1) (C := RX3) (T := TX3) (N := 23) hx hb hts iX3_ hown hK hP k_228 hk_228 rfl 13 (by decide) (hts (.fieldLink RX3 44 "FieldLeavesModel" "found" "[I") (by decide +kernel)) (fun _ h9 => h9) rfl dX3_find_220 ?_
                  refine lv_iload_n hx hb dX3_find_223 rfl (lv_at hl 0 rfl) ?_
                  obtain ⟨g_229, e_229, fg_229⟩ := hPI.a21 fs11_1
                  obtain ⟨k_229, hk_229⟩ := va_plg fs11_1.1 e_229
                  have h_229 : vp_in j2 25 := (vp_in_iff.mpr (by constructor <;> omega))
                  refine va_iald hx hb hK hP k_229 0 hk_229 rfl h_229 dX3_find_224 ?_
                  refine lv_topi (fun z_229 ez_229 => ?_)
                  have fz_229 := fg_229 _ (vp_lt h_229)
                  rw [← ez_229] at fz_229
                  have hFc := pl_free hD hS hA
                  obtain ⟨k_230, hk_230⟩ := va_plg hg0.1 e_224
                  refine va_callv (va_runV (b := g0) (As := [.int j2, .int z_229]) (rest := []) ⟨hx, hb, hml, hown, hts⟩ (q_X3_tellObject l dC dI TT H.size kI kJ kZ K L fl202 hPI g0 hg0 j2 z_229 (by constructor <;> omega) (by constructor <;> omega) hU hXL) (cwV 2 hts gX3_find_X3_tellObject rfl rfl rfl (by decide +kernel) ⟨Nat.le_of_ble_eq_true rfl, Nat.le_of_ble_eq_true rfl⟩) ⟨pr_blind, va_recv hK hP (ci := 3) rfl hk_230, (pr_S (ws := va_pl L fl202) (wA := va_pl L fl202) (tys := [(kI, .int), (kJ, .long), (kZ, .boolean)]) hP hK (hD.weaken (fun _ _ _ _ => trivial)) hst hS hFc).2⟩ rfl rfl hl.1 rfl (lv_room (Nat.le_of_ble_eq_true rfl)) dX3_find_225 ⟨Nat.le_of_ble_eq_true rfl, Nat.le_of_ble_eq_true rfl⟩) hS (fun q _ h => hFc q h) hFc (fun u t H1 locs ht hvm hw hB hz1 hk1 hS => ?_)
                  obtain ⟨f_232, hPI, hrel, hP, hD9⟩ := hB
                  rw [ht] at hP
                  have hD := hD9.weaken (fun _ q _ h => hFc q.1 h)
                  obtain ⟨hrelF, hrel⟩ := hrel
                  have eq_233 := (hrelF s11_1 fs11_1.1 (by rw [fs11_1.2]; rfl)).trans e_229
                  have hfr := FR.tr hfr hrelF (sK_sub (by decide))
                  generalize H1 = H at hP hS ⊢
                  have hXL := hrel
                  obtain ⟨i_234, ei_234⟩ : ∃ y : Int32, y = j2 + 1 := ⟨_, rfl⟩
                  refine lv_iinc (v := i_234) (lv' := [(2, .int i_234), (0, .ref g0), (1, .int o0)]) hx hb dX3_find_228 hl (k := 0) rfl (by rw [ei_234]; rfl) (by decide) rfl (fun ls hl => ?_)
                  have ki_234 := inc_toInt ei_234 (by omega)
                  refine lv_goto (tgt := 202) hx hb dX3_find_231 (by decide) ?_
                  exact ih_202 i_234 f_232 _ _ _  (by omega) (by omega) ⟨hfr, hXL⟩ hPI hP hD hS (lv_sub hl [0, 1, 2] rfl)
                · refine lv_if_eq (tgt := 234) hx hb dX3_find_214 (by decide) (fun _ => ?_) (fun c9 => absurd c9 (by decide))
                  refine lv_aload_n hx hb dX3_find_234 rfl (lv_at hl 1 rfl) ?_
                  obtain ⟨k_235, hk_235⟩ := va_plg hg0.1 e_224
                  refine va_get (D := (dC, dI)) (ci := 3) (v := .int 0) (C := RX3) (T := TX3) (N := 23) hx hb hts iX3_ hown hK hP k_235 hk_235 rfl 18 (by decide) (hts (.fieldLink RX3 163 "FieldLeavesModel" "isRoom" "Z") (by decide +kernel)) (fun _ h9 => h9) rfl dX3_find_235 ?_
                  subst eQ
                  exact W.zret (v := 0) hx hb hr rfl (fun t ht hW => ⟨⟨0, (), rfl, Or.inr rfl, fl202, hPI, ⟨(FR.tr hfrE24 (FR.tr hfrE202 hfr (fun _ h => h)) (fun _ h => h)), hXL⟩, by rw [ht]; exact hP, hD⟩, hS.F ht⟩) hS.2.2 dX3_find_238
          exact loop_202 25 0 fl _ _ _  (by omega) (by omega) ⟨FR.rf, hXL⟩ hPI hP hD hS hl
  exact loop_24 25 0 f_13 _ _ _  (by omega) (by omega) ⟨FR.rf, hXL⟩ hPI hP hD hS hl
