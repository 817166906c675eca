set_option maxRecDepth 20000 in
theorem in_n_X3_find_X3 : ∀ w ∈ u_ws RX3 TX3 23, w ∈ wsX3_find := by decide +kernel
set_option maxRecDepth 100000 in
set_option maxHeartbeats 4000000 in
theorem n_X3_find (l : Launch) (dC : Nat → ClassId) (dI : Nat → Nat → Nat) (TT : Nat × Nat × Nat) (sz : Nat) (kI kJ kZ : ClassId) (K : Nat → Nat) (L : List Nat) (f : Nat → va_E) (hPI : PR kI kJ kZ K L f) (g0 : Nat) (hg0 : isr K L 10 g0) (o0 : Int32) (ho0 : 0 ≤ o0.toInt ∧ o0.toInt < 6400) (hU : UN K L) (hXL : XL kI kJ K L f 23 24) : Met l yX3_find wsX3_find ({ frames := 2, cells := 0, slots := 0, locals := 50 } : Room) (va_Pc [.ref g0, .int o0] (pr dC dI (va_pl L f) (va_pl L f) [(kI, .int), (kJ, .long), (kZ, .boolean)] sz TT)) (va_Qi (fun (r : Int32) (u : Unit) => r01 r) (fun (_ : Unit) t => ∃ f2 : Nat → va_E, PR kI kJ kZ K L f2 ∧ (FR (sK [10, 21, 22, 23, 24]) K L f f2 ∧ (XL kI kJ K L f2 23 24 ∧ OR kI K L f2 22 14 ∧ KP f f2 g0)) ∧ va_P (dC, dI) vwCl (va_pl L f2) t.heap ∧ va_D (va_A (va_pl L f) sz) (va_pl L f2)) (va_A (va_pl L f) sz)) 0 0 (va_A (va_pl L f) sz) := by
  refine Met.ofW (cc := cX3_find) (maxL := 6) (ret := (some .boolean)) (by decide) rfl ?_
  intro p e s m args below meth c s₁ B hml hv
  obtain ⟨rfl, hsz, hP, hK, hD0, hst⟩ := hv
  have hx := B.exec
  have hb := B.bytes
  have hr := B.returns
  have hts := atoms_spec (ws := wsX3_find) B.pre
  have hown : s.vm.findClass RX3 = some m.cls := findClass_of_methodNamed B.named
  have hlocks := B.notSynchronized
  have iX3_ := in_n_X3_find_X3
  subst hsz
  have hD := hD0.self (sz := s.heap.size)
  generalize hAe : va_A (va_pl L f) s.heap.size = A at hD hst ⊢
  have hA : ∀ q : Nat, s.heap.size ≤ q → A q := fun q h => by rw [← hAe]; exact Or.inr h
  have hS : va_S A s.heap s.heap [] := va_S.rf
  have hl := lv_entry ([.ref g0, .int o0]) (n := 6) (Nat.le_of_ble_eq_true rfl)
  rw [lg_entry_eq]
  generalize (lg_sl ([.ref g0, .int o0]) ++ List.replicate (6 - (lg_sl ([.ref g0, .int o0])).length) Slot.unset).toArray = ls at hl ⊢
  have hl : lv_has ls 6 [(0, .ref g0), (1, .int o0)] := hl
  have km4_ : Int32.toInt (-4) = -4 := by decide
  have km1_ : Int32.toInt (-1) = -1 := by decide
  have k0_ : Int32.toInt 0 = 0 := by decide
  have k1_ : Int32.toInt 1 = 1 := by decide
  have k8_ : Int32.toInt 8 = 8 := by decide
  have k16_ : Int32.toInt 16 = 16 := by decide
  have k24_ : Int32.toInt 24 = 24 := by decide
  have hfr : FR (sK [10, 21, 22, 23, 24]) K L f f := FR.rf
  have hKP := KP.rf (f := f) (g := g0)
  refine W_nameQ (fun Q0 eQ => ?_)
  refine lv_aload_n hx hb dX3_find_0 rfl (lv_at hl 0 rfl) ?_
  refine lv_iconst (v := 1) hx hb dX3_find_1 (by decide) ?_
  obtain ⟨s1_1, s2_1, s3_1, s4_1, s5_1, s6_1, s7_1, pa_1, lm_1, s8_1, s9_1, s10_1, fm_1, s11_1, nm_1, s12_1, s13_1, s14_1, rm_1, s15_1, s16_1, s17_1, s18_1, e_1, fs1_1, fs2_1, fs3_1, fs4_1, fs5_1, fs6_1, fs7_1, flm_1, fs8_1, fs9_1, fs10_1, ffm_1, fs11_1, fnm_1, fs12_1, fs13_1, fs14_1, frm_1, fs15_1, fs16_1, fs17_1, fs18_1⟩ := hPI.a10 hg0
  obtain ⟨k_1, hk_1⟩ := va_plg hg0.1 e_1
  have hD9 := hD
  have rg_2 : 0 ≤ Int32.toInt 1 ∧ Int32.toInt 1 ≤ 24 := by constructor <;> omega
  refine va_put (D := (dC, dI)) (ci := 3) (v := .int 1) (ty := .int) (C := RX3) (T := TX3) (N := 23) hx hb hts iX3_ tyX3 tyX3_ok nmX3 hown hK hP hD hS k_1 hk_1 rfl 12 (by decide) (hts (.fieldLink RX3 167 "FieldLeavesModel" "foundMany" "I") (by decide +kernel)) (fun _ h9 => h9) rfl (by decide +kernel) rfl rfl (Nat.le_of_ble_eq_true rfl) dX3_find_2 (fun H locs hP hD hS => ?_)
  have hP : va_P (dC, dI) vwCl (va_pl L (va_up f g0 (.inr (3, [.ref s1_1, .ref s2_1, .ref s3_1, .ref s4_1, .ref s5_1, .ref s6_1, .ref s7_1, .int pa_1, .int lm_1, .ref s8_1, .ref s9_1, .ref s10_1, .int 1, .ref s11_1, .int nm_1, .ref s12_1, .ref s13_1, .ref s14_1, .int rm_1, .ref s15_1, .ref s16_1, .ref s17_1, .ref s18_1])))) H := by rw [← va_pls hD9 hg0.1 hk_1 _]; exact hP
  have hD : va_D A (va_pl L (va_up f g0 (.inr (3, [.ref s1_1, .ref s2_1, .ref s3_1, .ref s4_1, .ref s5_1, .ref s6_1, .ref s7_1, .int pa_1, .int lm_1, .ref s8_1, .ref s9_1, .ref s10_1, .int 1, .ref s11_1, .int nm_1, .ref s12_1, .ref s13_1, .ref s14_1, .int rm_1, .ref s15_1, .ref s16_1, .ref s17_1, .ref s18_1])))) := by rw [← va_pls hD9 hg0.1 hk_1 _]; exact hD
  have hPI := hPI.put (e := .inr (3, [.ref s1_1, .ref s2_1, .ref s3_1, .ref s4_1, .ref s5_1, .ref s6_1, .ref s7_1, .int pa_1, .int lm_1, .ref s8_1, .ref s9_1, .ref s10_1, .int 1, .ref s11_1, .int nm_1, .ref s12_1, .ref s13_1, .ref s14_1, .int rm_1, .ref s15_1, .ref s16_1, .ref s17_1, .ref s18_1])) hg0 ⟨s1_1, s2_1, s3_1, s4_1, s5_1, s6_1, s7_1, pa_1, lm_1, s8_1, s9_1, s10_1, 1, s11_1, nm_1, s12_1, s13_1, s14_1, rm_1, s15_1, s16_1, s17_1, s18_1, rfl, fs1_1, fs2_1, fs3_1, fs4_1, fs5_1, fs6_1, fs7_1, flm_1, fs8_1, fs9_1, fs10_1, rg_2, fs11_1, fnm_1, fs12_1, fs13_1, fs14_1, frm_1, fs15_1, fs16_1, fs17_1, fs18_1⟩
  have es_f_3 : va_up f g0 (.inr (3, [.ref s1_1, .ref s2_1, .ref s3_1, .ref s4_1, .ref s5_1, .ref s6_1, .ref s7_1, .int pa_1, .int lm_1, .ref s8_1, .ref s9_1, .ref s10_1, .int 1, .ref s11_1, .int nm_1, .ref s12_1, .ref s13_1, .ref s14_1, .int rm_1, .ref s15_1, .ref s16_1, .ref s17_1, .ref s18_1])) g0 = .inr (3, [.ref s1_1, .ref s2_1, .ref s3_1, .ref s4_1, .ref s5_1, .ref s6_1, .ref s7_1, .int pa_1, .int lm_1, .ref s8_1, .ref s9_1, .ref s10_1, .int 1, .ref s11_1, .int nm_1, .ref s12_1, .ref s13_1, .ref s14_1, .int rm_1, .ref s15_1, .ref s16_1, .ref s17_1, .ref s18_1]) := va_up_self _ _ _
  have hfr := fr_up (S := (sK [10, 21, 22, 23, 24])) (e := .inr (3, [.ref s1_1, .ref s2_1, .ref s3_1, .ref s4_1, .ref s5_1, .ref s6_1, .ref s7_1, .int pa_1, .int lm_1, .ref s8_1, .ref s9_1, .ref s10_1, .int 1, .ref s11_1, .int nm_1, .ref s12_1, .ref s13_1, .ref s14_1, .int rm_1, .ref s15_1, .ref s16_1, .ref s17_1, .ref s18_1])) hfr hg0 (by decide)
  have hXL := XL.up (e := .inr (3, [.ref s1_1, .ref s2_1, .ref s3_1, .ref s4_1, .ref s5_1, .ref s6_1, .ref s7_1, .int pa_1, .int lm_1, .ref s8_1, .ref s9_1, .ref s10_1, .int 1, .ref s11_1, .int nm_1, .ref s12_1, .ref s13_1, .ref s14_1, .int rm_1, .ref s15_1, .ref s16_1, .ref s17_1, .ref s18_1])) hXL hg0 (by decide) (by decide)
  have hKP := hKP.put e_1 es_f_3 ⟨rfl, rfl⟩
  generalize va_up f g0 (.inr (3, [.ref s1_1, .ref s2_1, .ref s3_1, .ref s4_1, .ref s5_1, .ref s6_1, .ref s7_1, .int pa_1, .int lm_1, .ref s8_1, .ref s9_1, .ref s10_1, .int 1, .ref s11_1, .int nm_1, .ref s12_1, .ref s13_1, .ref s14_1, .int rm_1, .ref s15_1, .ref s16_1, .ref s17_1, .ref s18_1])) = f_3 at hP hD hPI es_f_3  hfr hXL hKP
  refine lv_aload_n hx hb dX3_find_5 rfl (lv_at hl 0 rfl) ?_
  obtain ⟨k_4, hk_4⟩ := va_plg hg0.1 es_f_3
  refine va_get (D := (dC, dI)) (ci := 3) (v := .ref s11_1) (C := RX3) (T := TX3) (N := 23) hx hb hts iX3_ hown hK hP k_4 hk_4 rfl 13 (by decide) (hts (.fieldLink RX3 44 "FieldLeavesModel" "found" "[I") (by decide +kernel)) (fun _ h9 => h9) rfl dX3_find_6 ?_
  refine lv_iconst (v := 0) hx hb dX3_find_9 (by decide) ?_
  refine lv_iload_n hx hb dX3_find_10 rfl (lv_at hl 1 rfl) ?_
  obtain ⟨g_5, e_5, fg_5⟩ := hPI.a21 fs11_1
  obtain ⟨k_5, hk_5⟩ := va_plg fs11_1.1 e_5
  have h_5 : vp_in 0 25 := (vp_in_iff.mpr (by decide))
  have fw_5 := updS (P := fun v => 0 ≤ v.toInt ∧ v.toInt < 6400) (k := Int32.toNatClampNeg 0) (v := o0) fg_5 (by omega)
  have hD9 := hD
  refine va_iast hx hb hK hP hD hS k_5 0 hk_5 rfl h_5 dX3_find_11 (fun H locs hP hD hS => ?_)
  have hP : va_P (dC, dI) vwCl (va_pl L (va_up f_3 s11_1 (.inl (kI, 25, .inl (upd g_5 (Int32.toNatClampNeg 0) o0))))) H := by rw [← va_pls hD9 fs11_1.1 hk_5 _]; exact hP
  have hD : va_D A (va_pl L (va_up f_3 s11_1 (.inl (kI, 25, .inl (upd g_5 (Int32.toNatClampNeg 0) o0))))) := by rw [← va_pls hD9 fs11_1.1 hk_5 _]; exact hD
  have hPI := hPI.put (e := .inl (kI, 25, .inl (upd g_5 (Int32.toNatClampNeg 0) o0))) fs11_1 ⟨_, rfl, fw_5⟩
  have es_f_6 : va_up f_3 s11_1 (.inl (kI, 25, .inl (upd g_5 (Int32.toNatClampNeg 0) o0))) s11_1 = .inl (kI, 25, .inl (upd g_5 (Int32.toNatClampNeg 0) o0)) := va_up_self _ _ _
  have eq_7 := (va_up_ne f_3 (.inl (kI, 25, .inl (upd g_5 (Int32.toNatClampNeg 0) o0))) (isr_ne hg0 fs11_1 (by decide))).trans es_f_3
  have hfr := fr_up (S := (sK [10, 21, 22, 23, 24])) (e := .inl (kI, 25, .inl (upd g_5 (Int32.toNatClampNeg 0) o0))) hfr fs11_1 (by decide)
  have hXL := XL.up (e := .inl (kI, 25, .inl (upd g_5 (Int32.toNatClampNeg 0) o0))) hXL fs11_1 (by decide) (by decide)
  have hKP := hKP.same (va_up_ne f_3 (.inl (kI, 25, .inl (upd g_5 (Int32.toNatClampNeg 0) o0))) (isr_ne hg0 fs11_1 (by decide)))
  generalize va_up f_3 s11_1 (.inl (kI, 25, .inl (upd g_5 (Int32.toNatClampNeg 0) o0))) = f_6 at hP hD hPI es_f_6 eq_7 hfr hXL hKP
  refine lv_aload_n hx hb dX3_find_12 rfl (lv_at hl 0 rfl) ?_
  refine lv_iconst (v := 0) hx hb dX3_find_13 (by decide) ?_
  obtain ⟨k_8, hk_8⟩ := va_plg hg0.1 eq_7
  have hD9 := hD
  have rg_9 : 0 ≤ Int32.toInt 0 ∧ Int32.toInt 0 ≤ 300 := by constructor <;> omega
  refine va_put (D := (dC, dI)) (ci := 3) (v := .int 0) (ty := .int) (C := RX3) (T := TX3) (N := 23) hx hb hts iX3_ tyX3 tyX3_ok nmX3 hown hK hP hD hS k_8 hk_8 rfl 14 (by decide) (hts (.fieldLink RX3 160 "FieldLeavesModel" "newMany" "I") (by decide +kernel)) (fun _ h9 => h9) rfl (by decide +kernel) rfl rfl (Nat.le_of_ble_eq_true rfl) dX3_find_14 (fun H locs hP hD hS => ?_)
  have hP : va_P (dC, dI) vwCl (va_pl L (va_up f_6 g0 (.inr (3, [.ref s1_1, .ref s2_1, .ref s3_1, .ref s4_1, .ref s5_1, .ref s6_1, .ref s7_1, .int pa_1, .int lm_1, .ref s8_1, .ref s9_1, .ref s10_1, .int 1, .ref s11_1, .int 0, .ref s12_1, .ref s13_1, .ref s14_1, .int rm_1, .ref s15_1, .ref s16_1, .ref s17_1, .ref s18_1])))) H := by rw [← va_pls hD9 hg0.1 hk_8 _]; exact hP
  have hD : va_D A (va_pl L (va_up f_6 g0 (.inr (3, [.ref s1_1, .ref s2_1, .ref s3_1, .ref s4_1, .ref s5_1, .ref s6_1, .ref s7_1, .int pa_1, .int lm_1, .ref s8_1, .ref s9_1, .ref s10_1, .int 1, .ref s11_1, .int 0, .ref s12_1, .ref s13_1, .ref s14_1, .int rm_1, .ref s15_1, .ref s16_1, .ref s17_1, .ref s18_1])))) := by rw [← va_pls hD9 hg0.1 hk_8 _]; exact hD
  have hPI := hPI.put (e := .inr (3, [.ref s1_1, .ref s2_1, .ref s3_1, .ref s4_1, .ref s5_1, .ref s6_1, .ref s7_1, .int pa_1, .int lm_1, .ref s8_1, .ref s9_1, .ref s10_1, .int 1, .ref s11_1, .int 0, .ref s12_1, .ref s13_1, .ref s14_1, .int rm_1, .ref s15_1, .ref s16_1, .ref s17_1, .ref s18_1])) hg0 ⟨s1_1, s2_1, s3_1, s4_1, s5_1, s6_1, s7_1, pa_1, lm_1, s8_1, s9_1, s10_1, 1, s11_1, 0, s12_1, s13_1, s14_1, rm_1, s15_1, s16_1, s17_1, s18_1, rfl, fs1_1, fs2_1, fs3_1, fs4_1, fs5_1, fs6_1, fs7_1, flm_1, fs8_1, fs9_1, fs10_1, rg_2, fs11_1, rg_9, fs12_1, fs13_1, fs14_1, frm_1, fs15_1, fs16_1, fs17_1, fs18_1⟩
  have es_f_10 : va_up f_6 g0 (.inr (3, [.ref s1_1, .ref s2_1, .ref s3_1, .ref s4_1, .ref s5_1, .ref s6_1, .ref s7_1, .int pa_1, .int lm_1, .ref s8_1, .ref s9_1, .ref s10_1, .int 1, .ref s11_1, .int 0, .ref s12_1, .ref s13_1, .ref s14_1, .int rm_1, .ref s15_1, .ref s16_1, .ref s17_1, .ref s18_1])) g0 = .inr (3, [.ref s1_1, .ref s2_1, .ref s3_1, .ref s4_1, .ref s5_1, .ref s6_1, .ref s7_1, .int pa_1, .int lm_1, .ref s8_1, .ref s9_1, .ref s10_1, .int 1, .ref s11_1, .int 0, .ref s12_1, .ref s13_1, .ref s14_1, .int rm_1, .ref s15_1, .ref s16_1, .ref s17_1, .ref s18_1]) := va_up_self _ _ _
  have eq_11 := (va_up_ne f_6 (.inr (3, [.ref s1_1, .ref s2_1, .ref s3_1, .ref s4_1, .ref s5_1, .ref s6_1, .ref s7_1, .int pa_1, .int lm_1, .ref s8_1, .ref s9_1, .ref s10_1, .int 1, .ref s11_1, .int 0, .ref s12_1, .ref s13_1, .ref s14_1, .int rm_1, .ref s15_1, .ref s16_1, .ref s17_1, .ref s18_1])) (isr_ne fs11_1 hg0 (by decide))).trans es_f_6
  have hfr := fr_up (S := (sK [10, 21, 22, 23, 24])) (e := .inr (3, [.ref s1_1, .ref s2_1, .ref s3_1, .ref s4_1, .ref s5_1, .ref s6_1, .ref s7_1, .int pa_1, .int lm_1, .ref s8_1, .ref s9_1, .ref s10_1, .int 1, .ref s11_1, .int 0, .ref s12_1, .ref s13_1, .ref s14_1, .int rm_1, .ref s15_1, .ref s16_1, .ref s17_1, .ref s18_1])) hfr hg0 (by decide)
  have hXL := XL.up (e := .inr (3, [.ref s1_1, .ref s2_1, .ref s3_1, .ref s4_1, .ref s5_1, .ref s6_1, .ref s7_1, .int pa_1, .int lm_1, .ref s8_1, .ref s9_1, .ref s10_1, .int 1, .ref s11_1, .int 0, .ref s12_1, .ref s13_1, .ref s14_1, .int rm_1, .ref s15_1, .ref s16_1, .ref s17_1, .ref s18_1])) hXL hg0 (by decide) (by decide)
  have hKP := hKP.put eq_7 es_f_10 ⟨rfl, rfl⟩
  generalize va_up f_6 g0 (.inr (3, [.ref s1_1, .ref s2_1, .ref s3_1, .ref s4_1, .ref s5_1, .ref s6_1, .ref s7_1, .int pa_1, .int lm_1, .ref s8_1, .ref s9_1, .ref s10_1, .int 1, .ref s11_1, .int 0, .ref s12_1, .ref s13_1, .ref s14_1, .int rm_1, .ref s15_1, .ref s16_1, .ref s17_1, .ref s18_1])) = f_10 at hP hD hPI es_f_10 eq_11 hfr hXL hKP
  refine lv_aload_n hx hb dX3_find_17 rfl (lv_at hl 0 rfl) ?_
  refine lv_iconst (v := 1) hx hb dX3_find_18 (by decide) ?_
  obtain ⟨k_12, hk_12⟩ := va_plg hg0.1 es_f_10
  have hD9 := hD
  refine va_put (D := (dC, dI)) (ci := 3) (v := .int 1) (ty := .boolean) (C := RX3) (T := TX3) (N := 23) hx hb hts iX3_ tyX3 tyX3_ok nmX3 hown hK hP hD hS k_12 hk_12 rfl 18 (by decide) (hts (.fieldLink RX3 163 "FieldLeavesModel" "isRoom" "Z") (by decide +kernel)) (fun _ h9 => h9) rfl (by decide +kernel) rfl rfl (Nat.le_of_ble_eq_true rfl) dX3_find_19 (fun H locs hP hD hS => ?_)
  have hP : va_P (dC, dI) vwCl (va_pl L (va_up f_10 g0 (.inr (3, [.ref s1_1, .ref s2_1, .ref s3_1, .ref s4_1, .ref s5_1, .ref s6_1, .ref s7_1, .int pa_1, .int lm_1, .ref s8_1, .ref s9_1, .ref s10_1, .int 1, .ref s11_1, .int 0, .ref s12_1, .ref s13_1, .ref s14_1, .int 1, .ref s15_1, .ref s16_1, .ref s17_1, .ref s18_1])))) H := by rw [← va_pls hD9 hg0.1 hk_12 _]; exact hP
  have hD : va_D A (va_pl L (va_up f_10 g0 (.inr (3, [.ref s1_1, .ref s2_1, .ref s3_1, .ref s4_1, .ref s5_1, .ref s6_1, .ref s7_1, .int pa_1, .int lm_1, .ref s8_1, .ref s9_1, .ref s10_1, .int 1, .ref s11_1, .int 0, .ref s12_1, .ref s13_1, .ref s14_1, .int 1, .ref s15_1, .ref s16_1, .ref s17_1, .ref s18_1])))) := by rw [← va_pls hD9 hg0.1 hk_12 _]; exact hD
  have hPI := hPI.put (e := .inr (3, [.ref s1_1, .ref s2_1, .ref s3_1, .ref s4_1, .ref s5_1, .ref s6_1, .ref s7_1, .int pa_1, .int lm_1, .ref s8_1, .ref s9_1, .ref s10_1, .int 1, .ref s11_1, .int 0, .ref s12_1, .ref s13_1, .ref s14_1, .int 1, .ref s15_1, .ref s16_1, .ref s17_1, .ref s18_1])) hg0 ⟨s1_1, s2_1, s3_1, s4_1, s5_1, s6_1, s7_1, pa_1, lm_1, s8_1, s9_1, s10_1, 1, s11_1, 0, s12_1, s13_1, s14_1, 1, s15_1, s16_1, s17_1, s18_1, rfl, fs1_1, fs2_1, fs3_1, fs4_1, fs5_1, fs6_1, fs7_1, flm_1, fs8_1, fs9_1, fs10_1, rg_2, fs11_1, rg_9, fs12_1, fs13_1, fs14_1, (Or.inl rfl), fs15_1, fs16_1, fs17_1, fs18_1⟩
  have es_f_13 : va_up f_10 g0 (.inr (3, [.ref s1_1, .ref s2_1, .ref s3_1, .ref s4_1, .ref s5_1, .ref s6_1, .ref s7_1, .int pa_1, .int lm_1, .ref s8_1, .ref s9_1, .ref s10_1, .int 1, .ref s11_1, .int 0, .ref s12_1, .ref s13_1, .ref s14_1, .int 1, .ref s15_1, .ref s16_1, .ref s17_1, .ref s18_1])) g0 = .inr (3, [.ref s1_1, .ref s2_1, .ref s3_1, .ref s4_1, .ref s5_1, .ref s6_1, .ref s7_1, .int pa_1, .int lm_1, .ref s8_1, .ref s9_1, .ref s10_1, .int 1, .ref s11_1, .int 0, .ref s12_1, .ref s13_1, .ref s14_1, .int 1, .ref s15_1, .ref s16_1, .ref s17_1, .ref s18_1]) := va_up_self _ _ _
  have eq_14 := (va_up_ne f_10 (.inr (3, [.ref s1_1, .ref s2_1, .ref s3_1, .ref s4_1, .ref s5_1, .ref s6_1, .ref s7_1, .int pa_1, .int lm_1, .ref s8_1, .ref s9_1, .ref s10_1, .int 1, .ref s11_1, .int 0, .ref s12_1, .ref s13_1, .ref s14_1, .int 1, .ref s15_1, .ref s16_1, .ref s17_1, .ref s18_1])) (isr_ne fs11_1 hg0 (by decide))).trans eq_11
  have hfr := fr_up (S := (sK [10, 21, 22, 23, 24])) (e := .inr (3, [.ref s1_1, .ref s2_1, .ref s3_1, .ref s4_1, .ref s5_1, .ref s6_1, .ref s7_1, .int pa_1, .int lm_1, .ref s8_1, .ref s9_1, .ref s10_1, .int 1, .ref s11_1, .int 0, .ref s12_1, .ref s13_1, .ref s14_1, .int 1, .ref s15_1, .ref s16_1, .ref s17_1, .ref s18_1])) hfr hg0 (by decide)
  have hXL := XL.up (e := .inr (3, [.ref s1_1, .ref s2_1, .ref s3_1, .ref s4_1, .ref s5_1, .ref s6_1, .ref s7_1, .int pa_1, .int lm_1, .ref s8_1, .ref s9_1, .ref s10_1, .int 1, .ref s11_1, .int 0, .ref s12_1, .ref s13_1, .ref s14_1, .int 1, .ref s15_1, .ref s16_1, .ref s17_1, .ref s18_1])) hXL hg0 (by decide) (by decide)
  have hKP := hKP.put es_f_10 es_f_13 ⟨rfl, rfl⟩
  generalize va_up f_10 g0 (.inr (3, [.ref s1_1, .ref s2_1, .ref s3_1, .ref s4_1, .ref s5_1, .ref s6_1, .ref s7_1, .int pa_1, .int lm_1, .ref s8_1, .ref s9_1, .ref s10_1, .int 1, .ref s11_1, .int 0, .ref s12_1, .ref s13_1, .ref s14_1, .int 1, .ref s15_1, .ref s16_1, .ref s17_1, .ref s18_1])) = f_13 at hP hD hPI es_f_13 eq_14 hfr hXL hKP
  refine lv_iconst (v := 0) hx hb dX3_find_22 (by decide) ?_
  refine lv_istore_n (lv' := [(2, .int 0), (0, .ref g0), (1, .int o0)]) hx hb dX3_find_23 rfl hl (by decide) rfl (fun ls hl => ?_)
  have hfrE24 := hfr
  have loop_24 : ∀ (n : Nat) (i2 : Int32)   (fl : Nat → va_E) (H : Heap) (locs : List Loc) (ls : Array Slot), (0 ≤ i2.toInt ∧ i2.toInt ≤ 24) → (24 - i2.toInt).toNat < n → (FR (sK [10, 21, 22, 23, 24]) K L f_13 fl ∧ (XL kI kJ K L fl 23 24 ∧ KP f fl g0 ∧ vAt (fl g0) 14 = 0)) → PR kI kJ kZ K L fl → va_P (dC, dI) vwCl (va_pl L fl) H → va_D A (va_pl L fl) → va_S A s.heap H locs → lv_has ls 6 [(2, .int i2), (0, .ref g0), (1, .int o0)] → W p l e (headSpec wsX3_find ({ frames := 2, cells := 0, slots := 0, locals := 50 } : Room)).room s m (([.ref g0, .int o0] : List Value).toArray) below meth c H locs 0 0 Q0 (F0 m 24 ls []) := by
    intro n
    induction n with
    | zero => intro i2 fl H locs ls  _ h9; exact absurd h9 (Nat.not_lt_zero _)
    | succ n ih_24 =>
      intro i2 fl H locs ls  hI hM hFN hPI hP hD hS hl
      obtain ⟨hfr, hFN⟩ := hFN
      obtain ⟨hXL, hKP, hv14⟩ := hFN
      obtain ⟨s1_15, s2_15, s3_15, s4_15, s5_15, s6_15, s7_15, pa_15, lm_15, s8_15, s9_15, s10_15, fm_15, s11_15, nm_15, s12_15, s13_15, s14_15, rm_15, s15_15, s16_15, s17_15, s18_15, e_15, fs1_15, fs2_15, fs3_15, fs4_15, fs5_15, fs6_15, fs7_15, flm_15, fs8_15, fs9_15, fs10_15, ffm_15, fs11_15, fnm_15, fs12_15, fs13_15, fs14_15, frm_15, fs15_15, fs16_15, fs17_15, fs18_15⟩ := hPI.a10 hg0
      obtain ⟨k_15, hk_15⟩ := va_plg hg0.1 e_15
      obtain rfl : s1_1 = s1_15 := hU _ _ fs1_1.1 fs1_15.1 (fs1_1.2.trans fs1_15.2.symm)
      obtain rfl : s2_1 = s2_15 := hU _ _ fs2_1.1 fs2_15.1 (fs2_1.2.trans fs2_15.2.symm)
      obtain rfl : s3_1 = s3_15 := hU _ _ fs3_1.1 fs3_15.1 (fs3_1.2.trans fs3_15.2.symm)
      obtain rfl : s4_1 = s4_15 := hU _ _ fs4_1.1 fs4_15.1 (fs4_1.2.trans fs4_15.2.symm)
      obtain rfl : s5_1 = s5_15 := hU _ _ fs5_1.1 fs5_15.1 (fs5_1.2.trans fs5_15.2.symm)
      obtain rfl : s6_1 = s6_15 := hU _ _ fs6_1.1 fs6_15.1 (fs6_1.2.trans fs6_15.2.symm)
      obtain rfl : s7_1 = s7_15 := hU _ _ fs7_1.1 fs7_15.1 (fs7_1.2.trans fs7_15.2.symm)
      obtain rfl : s8_1 = s8_15 := hU _ _ fs8_1.1 fs8_15.1 (fs8_1.2.trans fs8_15.2.symm)
      obtain rfl : s9_1 = s9_15 := hU _ _ fs9_1.1 fs9_15.1 (fs9_1.2.trans fs9_15.2.symm)
      obtain rfl : s10_1 = s10_15 := hU _ _ fs10_1.1 fs10_15.1 (fs10_1.2.trans fs10_15.2.symm)
      obtain rfl : s11_1 = s11_15 := hU _ _ fs11_1.1 fs11_15.1 (fs11_1.2.trans fs11_15.2.symm)
      obtain rfl : s12_1 = s12_15 := hU _ _ fs12_1.1 fs12_15.1 (fs12_1.2.trans fs12_15.2.symm)
      obtain rfl : s13_1 = s13_15 := hU _ _ fs13_1.1 fs13_15.1 (fs13_1.2.trans fs13_15.2.symm)
      obtain rfl : s14_1 = s14_15 := hU _ _ fs14_1.1 fs14_15.1 (fs14_1.2.trans fs14_15.2.symm)
      obtain rfl : s15_1 = s15_15 := hU _ _ fs15_1.1 fs15_15.1 (fs15_1.2.trans fs15_15.2.symm)
      obtain rfl : s16_1 = s16_15 := hU _ _ fs16_1.1 fs16_15.1 (fs16_1.2.trans fs16_15.2.symm)
      obtain rfl : s17_1 = s17_15 := hU _ _ fs17_1.1 fs17_15.1 (fs17_1.2.trans fs17_15.2.symm)
      obtain rfl : s18_1 = s18_15 := hU _ _ fs18_1.1 fs18_15.1 (fs18_1.2.trans fs18_15.2.symm)
      have hnm_16 : nm_15.toInt = 0 := (congrArg (vAt · 14) e_15).symm.trans hv14
      refine lv_iload_n hx hb dX3_find_24 rfl (lv_at hl 0 rfl) ?_
      refine lv_aload_n hx hb dX3_find_25 rfl (lv_at hl 1 rfl) ?_
      obtain ⟨k_17, hk_17⟩ := va_plg hg0.1 e_15
      refine va_get (D := (dC, dI)) (ci := 3) (v := .int fm_15) (C := RX3) (T := TX3) (N := 23) hx hb hts iX3_ hown hK hP k_17 hk_17 rfl 12 (by decide) (hts (.fieldLink RX3 167 "FieldLeavesModel" "foundMany" "I") (by decide +kernel)) (fun _ h9 => h9) rfl dX3_find_26 ?_
      refine lv_icmp_ge (tgt := 200) hx hb dX3_find_29 (by decide) (fun c_18 => ?_) (fun c_18 => ?_)
      · have c_18 := Int32.le_iff_toInt_le.mp c_18
        refine lv_iconst (v := 0) hx hb dX3_find_200 (by decide) ?_
        refine lv_istore_n (lv' := [(2, .int 0), (0, .ref g0), (1, .int o0)]) hx hb dX3_find_201 rfl hl (by decide) rfl (fun ls hl => ?_)
        have hfrE202 := hfr
        have loop_202 : ∀ (n : Nat) (j2 : Int32)   (fl202 : Nat → va_E) (H : Heap) (locs : List Loc) (ls : Array Slot), (0 ≤ j2.toInt ∧ j2.toInt ≤ 24) → (24 - j2.toInt).toNat < n → (FR (sK [10, 21, 22, 23, 24]) K L fl fl202 ∧ (XN kI kJ K L f g0 j2.toInt fl202)) → PR kI kJ kZ K L fl202 → va_P (dC, dI) vwCl (va_pl L fl202) H → va_D A (va_pl L fl202) → va_S A s.heap H locs → lv_has ls 6 [(2, .int j2), (0, .ref g0), (1, .int o0)] → W p l e (headSpec wsX3_find ({ frames := 2, cells := 0, slots := 0, locals := 50 } : Room)).room s m (([.ref g0, .int o0] : List Value).toArray) below meth c H locs 0 0 Q0 (F0 m 202 ls []) := by
          intro n
          induction n with
          | zero => intro j2 fl202 H locs ls  _ h9; exact absurd h9 (Nat.not_lt_zero _)
          | succ n ih_202 =>
            intro j2 fl202 H locs ls  hI hM hFN hPI hP hD hS hl
            obtain ⟨hfr, hFN⟩ := hFN
            have hXN := hFN
            refine lv_iload_n hx hb dX3_find_202 rfl (lv_at hl 0 rfl) ?_
            refine lv_aload_n hx hb dX3_find_203 rfl (lv_at hl 1 rfl) ?_
            obtain ⟨s1_19, s2_19, s3_19, s4_19, s5_19, s6_19, s7_19, pa_19, lm_19, s8_19, s9_19, s10_19, fm_19, s11_19, nm_19, s12_19, s13_19, s14_19, rm_19, s15_19, s16_19, s17_19, s18_19, e_19, fs1_19, fs2_19, fs3_19, fs4_19, fs5_19, fs6_19, fs7_19, flm_19, fs8_19, fs9_19, fs10_19, ffm_19, fs11_19, fnm_19, fs12_19, fs13_19, fs14_19, frm_19, fs15_19, fs16_19, fs17_19, fs18_19⟩ := hPI.a10 hg0
            obtain ⟨k_19, hk_19⟩ := va_plg hg0.1 e_19
            obtain rfl : s1_1 = s1_19 := hU _ _ fs1_1.1 fs1_19.1 (fs1_1.2.trans fs1_19.2.symm)
            obtain rfl : s2_1 = s2_19 := hU _ _ fs2_1.1 fs2_19.1 (fs2_1.2.trans fs2_19.2.symm)
            obtain rfl : s3_1 = s3_19 := hU _ _ fs3_1.1 fs3_19.1 (fs3_1.2.trans fs3_19.2.symm)
            obtain rfl : s4_1 = s4_19 := hU _ _ fs4_1.1 fs4_19.1 (fs4_1.2.trans fs4_19.2.symm)
            obtain rfl : s5_1 = s5_19 := hU _ _ fs5_1.1 fs5_19.1 (fs5_1.2.trans fs5_19.2.symm)
            obtain rfl : s6_1 = s6_19 := hU _ _ fs6_1.1 fs6_19.1 (fs6_1.2.trans fs6_19.2.symm)
            obtain rfl : s7_1 = s7_19 := hU _ _ fs7_1.1 fs7_19.1 (fs7_1.2.trans fs7_19.2.symm)
            obtain rfl : s8_1 = s8_19 := hU _ _ fs8_1.1 fs8_19.1 (fs8_1.2.trans fs8_19.2.symm)
            obtain rfl : s9_1 = s9_19 := hU _ _ fs9_1.1 fs9_19.1 (fs9_1.2.trans fs9_19.2.symm)
            obtain rfl : s10_1 = s10_19 := hU _ _ fs10_1.1 fs10_19.1 (fs10_1.2.trans fs10_19.2.symm)
            obtain rfl : s11_1 = s11_19 := hU _ _ fs11_1.1 fs11_19.1 (fs11_1.2.trans fs11_19.2.symm)
            obtain rfl : s12_1 = s12_19 := hU _ _ fs12_1.1 fs12_19.1 (fs12_1.2.trans fs12_19.2.symm)
            obtain rfl : s13_1 = s13_19 := hU _ _ fs13_1.1 fs13_19.1 (fs13_1.2.trans fs13_19.2.symm)
            obtain rfl : s14_1 = s14_19 := hU _ _ fs14_1.1 fs14_19.1 (fs14_1.2.trans fs14_19.2.symm)
            obtain rfl : s15_1 = s15_19 := hU _ _ fs15_1.1 fs15_19.1 (fs15_1.2.trans fs15_19.2.symm)
            obtain rfl : s16_1 = s16_19 := hU _ _ fs16_1.1 fs16_19.1 (fs16_1.2.trans fs16_19.2.symm)
            obtain rfl : s17_1 = s17_19 := hU _ _ fs17_1.1 fs17_19.1 (fs17_1.2.trans fs17_19.2.symm)
            obtain rfl : s18_1 = s18_19 := hU _ _ fs18_1.1 fs18_19.1 (fs18_1.2.trans fs18_19.2.symm)
            refine va_get (D := (dC, dI)) (ci := 3) (v := .int fm_19) (C := RX3) (T := TX3) (N := 23) hx hb hts iX3_ hown hK hP k_19 hk_19 rfl 12 (by decide) (hts (.fieldLink RX3 167 "FieldLeavesModel" "foundMany" "I") (by decide +kernel)) (fun _ h9 => h9) rfl dX3_find_204 ?_
            refine lv_icmp_ge (tgt := 234) hx hb dX3_find_207 (by decide) (fun c_20 => ?_) (fun c_20 => ?_)
            · have c_20 := Int32.le_iff_toInt_le.mp c_20
              refine lv_aload_n hx hb dX3_find_234 rfl (lv_at hl 1 rfl) ?_
              obtain ⟨k_21, hk_21⟩ := va_plg hg0.1 e_19
              refine va_get (D := (dC, dI)) (ci := 3) (v := .int rm_19) (C := RX3) (T := TX3) (N := 23) hx hb hts iX3_ hown hK hP k_21 hk_21 rfl 18 (by decide) (hts (.fieldLink RX3 163 "FieldLeavesModel" "isRoom" "Z") (by decide +kernel)) (fun _ h9 => h9) rfl dX3_find_235 ?_
              rcases frm_19 with rfl | rfl
              · subst eQ
                exact W.zret (v := 1) hx hb hr rfl (fun t ht hW => ⟨⟨1, (), rfl, Or.inl rfl, fl202, hPI, ⟨(FR.tr hfrE24 (FR.tr hfrE202 hfr (fun _ h => h)) (fun _ h => h)), hXN.1, hXN.2.1.2, hXN.2.2⟩, by rw [ht]; exact hP, hD⟩, hS.F ht⟩) hS.2.2 dX3_find_238
              · subst eQ
                exact W.zret (v := 0) hx hb hr rfl (fun t ht hW => ⟨⟨0, (), rfl, Or.inr rfl, fl202, hPI, ⟨(FR.tr hfrE24 (FR.tr hfrE202 hfr (fun _ h => h)) (fun _ h => h)), hXN.1, hXN.2.1.2, hXN.2.2⟩, by rw [ht]; exact hP, hD⟩, hS.F ht⟩) hS.2.2 dX3_find_238
            · have c_20 := mt Int32.le_iff_toInt_le.mpr c_20
              refine lv_aload_n hx hb dX3_find_210 rfl (lv_at hl 1 rfl) ?_
              obtain ⟨k_22, hk_22⟩ := va_plg hg0.1 e_19
              refine va_get (D := (dC, dI)) (ci := 3) (v := .int rm_19) (C := RX3) (T := TX3) (N := 23) hx hb hts iX3_ hown hK hP k_22 hk_22 rfl 18 (by decide) (hts (.fieldLink RX3 163 "FieldLeavesModel" "isRoom" "Z") (by decide +kernel)) (fun _ h9 => h9) rfl dX3_find_211 ?_
              rcases frm_19 with rfl | rfl
              · refine lv_if_eq (tgt := 234) hx hb dX3_find_214 (by decide) (fun c9 => absurd c9 (by decide)) (fun _ => ?_)
                refine lv_aload_n hx hb dX3_find_217 rfl (lv_at hl 1 rfl) ?_
                refine lv_iload_n hx hb dX3_find_218 rfl (lv_at hl 0 rfl) ?_
                refine lv_aload_n hx hb dX3_find_219 rfl (lv_at hl 1 rfl) ?_
                obtain ⟨k_23, hk_23⟩ := va_plg hg0.1 e_19
                refine va_get (D := (dC, dI)) (ci := 3) (v := .ref s11_1) (C := RX3) (T := TX3) (N := 23) hx hb hts iX3_ hown hK hP k_23 hk_23 rfl 13 (by decide) (hts (.fieldLink RX3 44 "FieldLeavesModel" "found" "[I") (by decide +kernel)) (fun _ h9 => h9) rfl dX3_find_220 ?_
                refine lv_iload_n hx hb dX3_find_223 rfl (lv_at hl 0 rfl) ?_
                obtain ⟨g_24, e_24, fg_24⟩ := hPI.a21 fs11_1
                obtain ⟨k_24, hk_24⟩ := va_plg fs11_1.1 e_24
                have h_24 : vp_in j2 25 := (vp_in_iff.mpr (by constructor <;> omega))
                refine va_iald hx hb hK hP k_24 0 hk_24 rfl h_24 dX3_find_224 ?_
                refine lv_topi (fun z_24 ez_24 => ?_)
                have fz_24 := fg_24 _ (vp_lt h_24)
                rw [← ez_24] at fz_24
                have hFc := pl_free hD hS hA
                obtain ⟨k_25, hk_25⟩ := va_plg hg0.1 e_19
                refine va_callv (va_runV (b := g0) (As := [.int j2, .int z_24]) (rest := []) ⟨hx, hb, hml, hown, hts⟩ (n_X3_tellObject l dC dI TT H.size kI kJ kZ K L fl202 hPI g0 hg0 j2 z_24 (by constructor <;> omega) (by constructor <;> omega) hU f hXN) (cwV 2 hts gX3_find_X3_tellObject rfl rfl rfl (by decide +kernel) ⟨Nat.le_of_ble_eq_true rfl, Nat.le_of_ble_eq_true rfl⟩) ⟨pr_blind, va_recv hK hP (ci := 3) rfl hk_25, (pr_S (ws := va_pl L fl202) (wA := va_pl L fl202) (tys := [(kI, .int), (kJ, .long), (kZ, .boolean)]) hP hK (hD.weaken (fun _ _ _ _ => trivial)) hst hS hFc).2⟩ rfl rfl hl.1 rfl (lv_room (Nat.le_of_ble_eq_true rfl)) dX3_find_225 ⟨Nat.le_of_ble_eq_true rfl, Nat.le_of_ble_eq_true rfl⟩) hS (fun q _ h => hFc q h) hFc (fun u t H1 locs ht hvm hw hB hz1 hk1 hS => ?_)
                obtain ⟨f_27, hPI, hrel, hP, hD9⟩ := hB
                rw [ht] at hP
                have hD := hD9.weaken (fun _ q _ h => hFc q.1 h)
                obtain ⟨hrelF, hrel⟩ := hrel
                have eq_28 := (hrelF s11_1 fs11_1.1 (by rw [fs11_1.2]; rfl)).trans e_24
                have hfr := FR.tr hfr hrelF (sK_sub (by decide))
                generalize H1 = H at hP hS ⊢
                have hXN := hrel
                obtain ⟨i_29, ei_29⟩ : ∃ y : Int32, y = j2 + 1 := ⟨_, rfl⟩
                refine lv_iinc (v := i_29) (lv' := [(2, .int i_29), (0, .ref g0), (1, .int o0)]) hx hb dX3_find_228 hl (k := 0) rfl (by rw [ei_29]; rfl) (by decide) rfl (fun ls hl => ?_)
                have ki_29 := inc_toInt ei_29 (by omega)
                refine lv_goto (tgt := 202) hx hb dX3_find_231 (by decide) ?_
                exact ih_202 i_29 f_27 _ _ _  (by omega) (by omega) ⟨hfr, XN.up hXN (by omega)⟩ hPI hP hD hS (lv_sub hl [0, 1, 2] rfl)
              · refine lv_if_eq (tgt := 234) hx hb dX3_find_214 (by decide) (fun _ => ?_) (fun c9 => absurd c9 (by decide))
                refine lv_aload_n hx hb dX3_find_234 rfl (lv_at hl 1 rfl) ?_
                obtain ⟨k_30, hk_30⟩ := va_plg hg0.1 e_19
                refine va_get (D := (dC, dI)) (ci := 3) (v := .int 0) (C := RX3) (T := TX3) (N := 23) hx hb hts iX3_ hown hK hP k_30 hk_30 rfl 18 (by decide) (hts (.fieldLink RX3 163 "FieldLeavesModel" "isRoom" "Z") (by decide +kernel)) (fun _ h9 => h9) rfl dX3_find_235 ?_
                subst eQ
                exact W.zret (v := 0) hx hb hr rfl (fun t ht hW => ⟨⟨0, (), rfl, Or.inr rfl, fl202, hPI, ⟨(FR.tr hfrE24 (FR.tr hfrE202 hfr (fun _ h => h)) (fun _ h => h)), hXN.1, hXN.2.1.2, hXN.2.2⟩, by rw [ht]; exact hP, hD⟩, hS.F ht⟩) hS.2.2 dX3_find_238
        exact loop_202 25 0 fl _ _ _  (by omega) (by omega) ⟨FR.rf, XN.zero hU hg0 hXL ((congrArg (vAt · 14) e_15).trans hnm_16) hKP⟩ hPI hP hD hS hl
      · have c_18 := mt Int32.le_iff_toInt_le.mpr c_18
        refine lv_aload_n hx hb dX3_find_32 rfl (lv_at hl 1 rfl) ?_
        obtain ⟨k_31, hk_31⟩ := va_plg hg0.1 e_15
        refine va_get (D := (dC, dI)) (ci := 3) (v := .int rm_15) (C := RX3) (T := TX3) (N := 23) hx hb hts iX3_ hown hK hP k_31 hk_31 rfl 18 (by decide) (hts (.fieldLink RX3 163 "FieldLeavesModel" "isRoom" "Z") (by decide +kernel)) (fun _ h9 => h9) rfl dX3_find_33 ?_
        rcases frm_15 with rfl | rfl
        · refine lv_if_eq (tgt := 200) hx hb dX3_find_36 (by decide) (fun c9 => absurd c9 (by decide)) (fun _ => ?_)
          refine lv_aload_n hx hb dX3_find_39 rfl (lv_at hl 1 rfl) ?_
          obtain ⟨k_32, hk_32⟩ := va_plg hg0.1 e_15
          refine va_get (D := (dC, dI)) (ci := 3) (v := .ref s11_1) (C := RX3) (T := TX3) (N := 23) hx hb hts iX3_ hown hK hP k_32 hk_32 rfl 13 (by decide) (hts (.fieldLink RX3 44 "FieldLeavesModel" "found" "[I") (by decide +kernel)) (fun _ h9 => h9) rfl dX3_find_40 ?_
          refine lv_iload_n hx hb dX3_find_43 rfl (lv_at hl 0 rfl) ?_
          obtain ⟨g_33, e_33, fg_33⟩ := hPI.a21 fs11_1
          obtain ⟨k_33, hk_33⟩ := va_plg fs11_1.1 e_33
          have h_33 : vp_in i2 25 := (vp_in_iff.mpr (by constructor <;> omega))
          refine va_iald hx hb hK hP k_33 0 hk_33 rfl h_33 dX3_find_44 ?_
          refine lv_topi (fun z_33 ez_33 => ?_)
          have fz_33 := fg_33 _ (vp_lt h_33)
          rw [← ez_33] at fz_33
          refine lv_istore_n (lv' := [(3, .int z_33), (2, .int i2), (0, .ref g0), (1, .int o0)]) hx hb dX3_find_45 rfl hl (by decide) rfl (fun ls hl => ?_)
          refine lv_bipush (v := 8) hx hb dX3_find_46 (by decide) ?_
          refine lv_istore (lv' := [(4, .int 8), (3, .int z_33), (2, .int i2), (0, .ref g0), (1, .int o0)]) hx hb dX3_find_48 hl (by decide) rfl (fun ls hl => ?_)
          have hfrE50 := hfr
          have loop_50 : ∀ (n : Nat) (i4 : Int32)   (fl50 : Nat → va_E) (H : Heap) (locs : List Loc) (ls : Array Slot), (8 ≤ i4.toInt ∧ i4.toInt ≤ 16) → (16 - i4.toInt).toNat < n → (FR (sK [10, 21, 22, 23, 24]) K L fl fl50 ∧ (XL kI kJ K L fl50 23 24 ∧ KP f fl50 g0 ∧ vAt (fl50 g0) 14 = 0)) → PR kI kJ kZ K L fl50 → va_P (dC, dI) vwCl (va_pl L fl50) H → va_D A (va_pl L fl50) → va_S A s.heap H locs → lv_has ls 6 [(4, .int i4), (3, .int z_33), (2, .int i2), (0, .ref g0), (1, .int o0)] → W p l e (headSpec wsX3_find ({ frames := 2, cells := 0, slots := 0, locals := 50 } : Room)).room s m (([.ref g0, .int o0] : List Value).toArray) below meth c H locs 0 0 Q0 (F0 m 50 ls []) := by
            intro n
            induction n with
            | zero => intro i4 fl50 H locs ls  _ h9; exact absurd h9 (Nat.not_lt_zero _)
            | succ n ih_50 =>
              intro i4 fl50 H locs ls  hI hM hFN hPI hP hD hS hl
              obtain ⟨hfr, hFN⟩ := hFN
              obtain ⟨hXL, hKP, hv14⟩ := hFN
              obtain ⟨s1_34, s2_34, s3_34, s4_34, s5_34, s6_34, s7_34, pa_34, lm_34, s8_34, s9_34, s10_34, fm_34, s11_34, nm_34, s12_34, s13_34, s14_34, rm_34, s15_34, s16_34, s17_34, s18_34, e_34, fs1_34, fs2_34, fs3_34, fs4_34, fs5_34, fs6_34, fs7_34, flm_34, fs8_34, fs9_34, fs10_34, ffm_34, fs11_34, fnm_34, fs12_34, fs13_34, fs14_34, frm_34, fs15_34, fs16_34, fs17_34, fs18_34⟩ := hPI.a10 hg0
              obtain ⟨k_34, hk_34⟩ := va_plg hg0.1 e_34
              obtain rfl : s1_1 = s1_34 := hU _ _ fs1_1.1 fs1_34.1 (fs1_1.2.trans fs1_34.2.symm)
              obtain rfl : s2_1 = s2_34 := hU _ _ fs2_1.1 fs2_34.1 (fs2_1.2.trans fs2_34.2.symm)
              obtain rfl : s3_1 = s3_34 := hU _ _ fs3_1.1 fs3_34.1 (fs3_1.2.trans fs3_34.2.symm)
              obtain rfl : s4_1 = s4_34 := hU _ _ fs4_1.1 fs4_34.1 (fs4_1.2.trans fs4_34.2.symm)
              obtain rfl : s5_1 = s5_34 := hU _ _ fs5_1.1 fs5_34.1 (fs5_1.2.trans fs5_34.2.symm)
              obtain rfl : s6_1 = s6_34 := hU _ _ fs6_1.1 fs6_34.1 (fs6_1.2.trans fs6_34.2.symm)
              obtain rfl : s7_1 = s7_34 := hU _ _ fs7_1.1 fs7_34.1 (fs7_1.2.trans fs7_34.2.symm)
              obtain rfl : s8_1 = s8_34 := hU _ _ fs8_1.1 fs8_34.1 (fs8_1.2.trans fs8_34.2.symm)
              obtain rfl : s9_1 = s9_34 := hU _ _ fs9_1.1 fs9_34.1 (fs9_1.2.trans fs9_34.2.symm)
              obtain rfl : s10_1 = s10_34 := hU _ _ fs10_1.1 fs10_34.1 (fs10_1.2.trans fs10_34.2.symm)
              obtain rfl : s11_1 = s11_34 := hU _ _ fs11_1.1 fs11_34.1 (fs11_1.2.trans fs11_34.2.symm)
              obtain rfl : s12_1 = s12_34 := hU _ _ fs12_1.1 fs12_34.1 (fs12_1.2.trans fs12_34.2.symm)
              obtain rfl : s13_1 = s13_34 := hU _ _ fs13_1.1 fs13_34.1 (fs13_1.2.trans fs13_34.2.symm)
              obtain rfl : s14_1 = s14_34 := hU _ _ fs14_1.1 fs14_34.1 (fs14_1.2.trans fs14_34.2.symm)
              obtain rfl : s15_1 = s15_34 := hU _ _ fs15_1.1 fs15_34.1 (fs15_1.2.trans fs15_34.2.symm)
              obtain rfl : s16_1 = s16_34 := hU _ _ fs16_1.1 fs16_34.1 (fs16_1.2.trans fs16_34.2.symm)
              obtain rfl : s17_1 = s17_34 := hU _ _ fs17_1.1 fs17_34.1 (fs17_1.2.trans fs17_34.2.symm)
              obtain rfl : s18_1 = s18_34 := hU _ _ fs18_1.1 fs18_34.1 (fs18_1.2.trans fs18_34.2.symm)
              have hnm_35 : nm_34.toInt = 0 := (congrArg (vAt · 14) e_34).symm.trans hv14
              refine lv_iload hx hb dX3_find_50 (lv_at hl 0 rfl) ?_
              refine lv_bipush (v := 16) hx hb dX3_find_52 (by decide) ?_
              refine lv_icmp_ge (tgt := 194) hx hb dX3_find_54 (by decide) (fun c_36 => ?_) (fun c_36 => ?_)
              · have c_36 := Int32.le_iff_toInt_le.mp c_36
                obtain ⟨i_37, ei_37⟩ : ∃ y : Int32, y = i2 + 1 := ⟨_, rfl⟩
                refine lv_iinc (v := i_37) (lv' := [(2, .int i_37), (4, .int i4), (3, .int z_33), (0, .ref g0), (1, .int o0)]) hx hb dX3_find_194 hl (k := 2) rfl (by rw [ei_37]; rfl) (by decide) rfl (fun ls hl => ?_)
                have ki_37 := inc_toInt ei_37 (by omega)
                refine lv_goto (tgt := 24) hx hb dX3_find_197 (by decide) ?_
                exact ih_24 i_37 fl50 _ _ _  (by omega) (by omega) ⟨(FR.tr hfrE50 hfr (fun _ h => h)), ⟨hXL, hKP, (congrArg (vAt · 14) e_34).trans hnm_35⟩⟩ hPI hP hD hS (lv_sub hl [0, 3, 4] rfl)
              · have c_36 := mt Int32.le_iff_toInt_le.mpr c_36
                refine lv_iload hx hb dX3_find_57 (lv_at hl 0 rfl) ?_
                refine va_calli (va_runS (As := [.int i4]) (rest := []) ⟨hx, hb, hml, hown, hts⟩ (c_X3_isLink l dC dI TT H.size i4) (va_cwS 1 hts gX3_find_X3_isLink rfl rfl rfl (by decide +kernel) ⟨Nat.le_of_ble_eq_true rfl, Nat.le_of_ble_eq_true rfl⟩) (pr_S (ws := []) (wA := []) (tys := []) vp_nil (hK.sub [] rfl) vd_nil hst hS (ro_free hS hA)) rfl rfl hl.1 rfl (lv_room (Nat.le_of_ble_eq_true rfl)) dX3_find_59 ⟨Nat.le_of_ble_eq_true rfl, Nat.le_of_ble_eq_true rfl⟩) hS (fun q _ h => (ro_free hS hA) q h) (ro_free hS hA) (fun r_38 u t H1 locs ht hvm hw hB hz1 hk1 hS => ?_)
                have hP := ro_keep hP hk1
                generalize H1 = H at hP hS ⊢
                rcases hw with ⟨rfl, hp_39⟩ | ⟨rfl, hp_39⟩
                · refine lv_if_eq (tgt := 95) hx hb dX3_find_62 (by decide) (fun c9 => absurd c9 (by decide)) (fun _ => ?_)
                  refine lv_aload_n hx hb dX3_find_65 rfl (lv_at hl 3 rfl) ?_
                  obtain ⟨k_40, hk_40⟩ := va_plg hg0.1 e_34
                  refine va_get (D := (dC, dI)) (ci := 3) (v := .ref s2_1) (C := RX3) (T := TX3) (N := 23) hx hb hts iX3_ hown hK hP k_40 hk_40 rfl 1 (by decide) (hts (.fieldLink RX3 13 "FieldLeavesModel" "classOf" "[I") (by decide +kernel)) (fun _ h9 => h9) rfl dX3_find_66 ?_
                  refine lv_iload_n hx hb dX3_find_69 rfl (lv_at hl 1 rfl) ?_
                  obtain ⟨g_41, e_41, fg_41⟩ := hPI.a12 fs2_1
                  obtain ⟨k_41, hk_41⟩ := va_plg fs2_1.1 e_41
                  have h_41 : vp_in z_33 6400 := (vp_in_iff.mpr (by constructor <;> omega))
                  refine va_iald hx hb hK hP k_41 0 hk_41 rfl h_41 dX3_find_70 ?_
                  refine lv_topi (fun z_41 ez_41 => ?_)
                  refine lv_iload hx hb dX3_find_71 (lv_at hl 0 rfl) ?_
                  refine va_calli (va_runS (As := [.int z_41, .int i4]) (rest := []) ⟨hx, hb, hml, hown, hts⟩ (q_X3_has l dC dI TT H.size z_41 i4) (va_cwS 2 hts gX3_find_X3_has rfl rfl rfl (by decide +kernel) ⟨Nat.le_of_ble_eq_true rfl, Nat.le_of_ble_eq_true rfl⟩) (pr_S (ws := []) (wA := []) (tys := []) vp_nil (hK.sub [] rfl) vd_nil hst hS (ro_free hS hA)) rfl rfl hl.1 rfl (lv_room (Nat.le_of_ble_eq_true rfl)) dX3_find_73 ⟨Nat.le_of_ble_eq_true rfl, Nat.le_of_ble_eq_true rfl⟩) hS (fun q _ h => (ro_free hS hA) q h) (ro_free hS hA) (fun r_42 u t H1 locs ht hvm hw hB hz1 hk1 hS => ?_)
                  have hP := ro_keep hP hk1
                  generalize H1 = H at hP hS ⊢
                  rcases hw with ⟨rfl, hp_43⟩ | ⟨rfl, hp_43⟩
                  · refine lv_if_eq (tgt := 95) hx hb dX3_find_76 (by decide) (fun c9 => absurd c9 (by decide)) (fun _ => ?_)
                    refine lv_aload_n hx hb dX3_find_79 rfl (lv_at hl 3 rfl) ?_
                    obtain ⟨k_44, hk_44⟩ := va_plg hg0.1 e_34
                    refine va_get (D := (dC, dI)) (ci := 3) (v := .ref s3_1) (C := RX3) (T := TX3) (N := 23) hx hb hts iX3_ hown hK hP k_44 hk_44 rfl 2 (by decide) (hts (.fieldLink RX3 17 "FieldLeavesModel" "field" "[J") (by decide +kernel)) (fun _ h9 => h9) rfl dX3_find_80 ?_
                    refine lv_bipush (v := 17) hx hb dX3_find_83 (by decide) ?_
                    refine lv_iload_n hx hb dX3_find_85 rfl (lv_at hl 1 rfl) ?_
                    refine lv_imul hx hb dX3_find_86 ?_
                    refine lv_topi (fun z_45 ez_45 => ?_)
                    have kz_45 := mul17 ez_45 (by omega) (by omega)
                    refine lv_iload hx hb dX3_find_87 (lv_at hl 0 rfl) ?_
                    refine lv_iadd hx hb dX3_find_89 ?_
                    refine lv_topi (fun z_46 ez_46 => ?_)
                    have kz_46 := add_toInt ez_46 (by omega) (by omega)
                    obtain ⟨g_47, e_47, fg_47⟩ := hPI.a13 fs3_1
                    obtain ⟨k_47, hk_47⟩ := va_plg fs3_1.1 e_47
                    have h_47 : vp_in z_46 108800 := (vp_in_iff.mpr (by constructor <;> omega))
                    refine va_lald hx hb hK hP k_47 1 hk_47 rfl h_47 dX3_find_90 ?_
                    refine lv_topl (fun z_47 ez_47 => ?_)
                    have fz_47 := rgF.at fg_47 (o := z_33) (f := i4) (w := z_46) (by constructor <;> omega) (by omega) (by omega)
                    rw [← ez_47] at fz_47
                    refine lv_l2i hx hb dX3_find_91 rfl ?_
                    refine lv_topi (fun z_48 ez_48 => ?_)
                    have kz_48 := l2i_sm ez_48 (by omega) (by omega)
                    refine lv_goto (tgt := 96) hx hb dX3_find_92 (by decide) ?_
                    refine lv_istore (lv' := [(5, .int z_48), (4, .int i4), (3, .int z_33), (2, .int i2), (0, .ref g0), (1, .int o0)]) hx hb dX3_find_96 hl (by decide) rfl (fun ls hl => ?_)
                    refine lv_iload hx hb dX3_find_98 (lv_at hl 0 rfl) ?_
                    refine lv_iconst (v := (-1)) hx hb dX3_find_100 (by decide) ?_
                    refine lv_icmp_eq (tgt := 188) hx hb dX3_find_101 (by decide) (fun c_49 => ?_) (fun c_49 => ?_)
                    · have c_49 := congrArg Int32.toInt c_49
                      obtain ⟨i_50, ei_50⟩ : ∃ y : Int32, y = i4 + 1 := ⟨_, rfl⟩
                      refine lv_iinc (v := i_50) (lv' := [(4, .int i_50), (5, .int z_48), (3, .int z_33), (2, .int i2), (0, .ref g0), (1, .int o0)]) hx hb dX3_find_188 hl (k := 1) rfl (by rw [ei_50]; rfl) (by decide) rfl (fun ls hl => ?_)
                      have ki_50 := inc_toInt ei_50 (by omega)
                      refine lv_goto (tgt := 50) hx hb dX3_find_191 (by decide) ?_
                      exact ih_50 i_50 fl50 _ _ _  (by omega) (by omega) ⟨hfr, ⟨hXL, hKP, (congrArg (vAt · 14) e_34).trans hnm_35⟩⟩ hPI hP hD hS (lv_sub hl [0, 2, 3, 4, 5] rfl)
                    · have c_49 := mt Int32.toInt_inj.mp c_49
                      refine lv_aload_n hx hb dX3_find_104 rfl (lv_at hl 4 rfl) ?_
                      refine lv_iload hx hb dX3_find_105 (lv_at hl 0 rfl) ?_
                      obtain ⟨k_51, hk_51⟩ := va_plg hg0.1 e_34
                      refine va_calli (va_runV (b := g0) (As := [.int z_48]) (rest := []) ⟨hx, hb, hml, hown, hts⟩ (q_X3_numberOf l dC dI TT H.size kI kJ kZ K L fl50 hPI g0 hg0 z_48) (cwV 1 hts gX3_find_X3_numberOf rfl rfl rfl (by decide +kernel) ⟨Nat.le_of_ble_eq_true rfl, Nat.le_of_ble_eq_true rfl⟩) ⟨pr_blind, va_recv hK hP (ci := 3) rfl hk_51, (pr_S (ws := va_pl L fl50) (wA := []) (tys := [(kI, .int), (kJ, .long), (kZ, .boolean)]) hP hK vd_nil hst hS (ro_free hS hA)).2⟩ rfl rfl hl.1 rfl (lv_room (Nat.le_of_ble_eq_true rfl)) dX3_find_107 ⟨Nat.le_of_ble_eq_true rfl, Nat.le_of_ble_eq_true rfl⟩) hS (fun q _ h => (ro_free hS hA) q h) (ro_free hS hA) (fun r_52 u t H1 locs ht hvm hw hB hz1 hk1 hS => ?_)
                      have hP := ro_keep hP hk1
                      generalize H1 = H at hP hS ⊢
                      refine lv_bipush (v := (-4)) hx hb dX3_find_110 (by decide) ?_
                      refine lv_icmp_ne (tgt := 188) hx hb dX3_find_112 (by decide) (fun c_53 => ?_) (fun c_53 => ?_)
                      · have c_53 := mt Int32.toInt_inj.mp c_53
                        obtain ⟨i_54, ei_54⟩ : ∃ y : Int32, y = i4 + 1 := ⟨_, rfl⟩
                        refine lv_iinc (v := i_54) (lv' := [(4, .int i_54), (5, .int z_48), (3, .int z_33), (2, .int i2), (0, .ref g0), (1, .int o0)]) hx hb dX3_find_188 hl (k := 1) rfl (by rw [ei_54]; rfl) (by decide) rfl (fun ls hl => ?_)
                        have ki_54 := inc_toInt ei_54 (by omega)
                        refine lv_goto (tgt := 50) hx hb dX3_find_191 (by decide) ?_
                        exact ih_50 i_54 fl50 _ _ _  (by omega) (by omega) ⟨hfr, ⟨hXL, hKP, (congrArg (vAt · 14) e_34).trans hnm_35⟩⟩ hPI hP hD hS (lv_sub hl [0, 2, 3, 4, 5] rfl)
                      · have c_53 := congrArg Int32.toInt c_53
                        refine lv_aload_n hx hb dX3_find_115 rfl (lv_at hl 4 rfl) ?_
                        refine lv_aload_n hx hb dX3_find_116 rfl (lv_at hl 4 rfl) ?_
                        obtain ⟨k_55, hk_55⟩ := va_plg hg0.1 e_34
                        refine va_get (D := (dC, dI)) (ci := 3) (v := .int rm_34) (C := RX3) (T := TX3) (N := 23) hx hb hts iX3_ hown hK hP k_55 hk_55 rfl 18 (by decide) (hts (.fieldLink RX3 163 "FieldLeavesModel" "isRoom" "Z") (by decide +kernel)) (fun _ h9 => h9) rfl dX3_find_117 ?_
                        rcases frm_34 with rfl | rfl
                        · refine lv_if_eq (tgt := 136) hx hb dX3_find_120 (by decide) (fun c9 => absurd c9 (by decide)) (fun _ => ?_)
                          refine lv_aload_n hx hb dX3_find_123 rfl (lv_at hl 4 rfl) ?_
                          obtain ⟨k_56, hk_56⟩ := va_plg hg0.1 e_34
                          refine va_get (D := (dC, dI)) (ci := 3) (v := .int fm_34) (C := RX3) (T := TX3) (N := 23) hx hb hts iX3_ hown hK hP k_56 hk_56 rfl 12 (by decide) (hts (.fieldLink RX3 167 "FieldLeavesModel" "foundMany" "I") (by decide +kernel)) (fun _ h9 => h9) rfl dX3_find_124 ?_
                          refine lv_bipush (v := 24) hx hb dX3_find_127 (by decide) ?_
                          refine lv_icmp_ge (tgt := 136) hx hb dX3_find_129 (by decide) (fun c_57 => ?_) (fun c_57 => ?_)
                          · have c_57 := Int32.le_iff_toInt_le.mp c_57
                            refine lv_iconst (v := 0) hx hb dX3_find_136 (by decide) ?_
                            obtain ⟨k_58, hk_58⟩ := va_plg hg0.1 e_34
                            have hD9 := hD
                            refine va_put (D := (dC, dI)) (ci := 3) (v := .int 0) (ty := .boolean) (C := RX3) (T := TX3) (N := 23) hx hb hts iX3_ tyX3 tyX3_ok nmX3 hown hK hP hD hS k_58 hk_58 rfl 18 (by decide) (hts (.fieldLink RX3 163 "FieldLeavesModel" "isRoom" "Z") (by decide +kernel)) (fun _ h9 => h9) rfl (by decide +kernel) rfl rfl (Nat.le_of_ble_eq_true rfl) dX3_find_137 (fun H locs hP hD hS => ?_)
                            have hP : va_P (dC, dI) vwCl (va_pl L (va_up fl50 g0 (.inr (3, [.ref s1_1, .ref s2_1, .ref s3_1, .ref s4_1, .ref s5_1, .ref s6_1, .ref s7_1, .int pa_34, .int lm_34, .ref s8_1, .ref s9_1, .ref s10_1, .int fm_34, .ref s11_1, .int nm_34, .ref s12_1, .ref s13_1, .ref s14_1, .int 0, .ref s15_1, .ref s16_1, .ref s17_1, .ref s18_1])))) H := by rw [← va_pls hD9 hg0.1 hk_58 _]; exact hP
                            have hD : va_D A (va_pl L (va_up fl50 g0 (.inr (3, [.ref s1_1, .ref s2_1, .ref s3_1, .ref s4_1, .ref s5_1, .ref s6_1, .ref s7_1, .int pa_34, .int lm_34, .ref s8_1, .ref s9_1, .ref s10_1, .int fm_34, .ref s11_1, .int nm_34, .ref s12_1, .ref s13_1, .ref s14_1, .int 0, .ref s15_1, .ref s16_1, .ref s17_1, .ref s18_1])))) := by rw [← va_pls hD9 hg0.1 hk_58 _]; exact hD
                            have hPI := hPI.put (e := .inr (3, [.ref s1_1, .ref s2_1, .ref s3_1, .ref s4_1, .ref s5_1, .ref s6_1, .ref s7_1, .int pa_34, .int lm_34, .ref s8_1, .ref s9_1, .ref s10_1, .int fm_34, .ref s11_1, .int nm_34, .ref s12_1, .ref s13_1, .ref s14_1, .int 0, .ref s15_1, .ref s16_1, .ref s17_1, .ref s18_1])) hg0 ⟨s1_1, s2_1, s3_1, s4_1, s5_1, s6_1, s7_1, pa_34, lm_34, s8_1, s9_1, s10_1, fm_34, s11_1, nm_34, s12_1, s13_1, s14_1, 0, s15_1, s16_1, s17_1, s18_1, rfl, fs1_1, fs2_1, fs3_1, fs4_1, fs5_1, fs6_1, fs7_1, flm_34, fs8_1, fs9_1, fs10_1, ffm_34, fs11_1, fnm_34, fs12_1, fs13_1, fs14_1, (Or.inr rfl), fs15_1, fs16_1, fs17_1, fs18_1⟩
                            have es_f_59 : va_up fl50 g0 (.inr (3, [.ref s1_1, .ref s2_1, .ref s3_1, .ref s4_1, .ref s5_1, .ref s6_1, .ref s7_1, .int pa_34, .int lm_34, .ref s8_1, .ref s9_1, .ref s10_1, .int fm_34, .ref s11_1, .int nm_34, .ref s12_1, .ref s13_1, .ref s14_1, .int 0, .ref s15_1, .ref s16_1, .ref s17_1, .ref s18_1])) g0 = .inr (3, [.ref s1_1, .ref s2_1, .ref s3_1, .ref s4_1, .ref s5_1, .ref s6_1, .ref s7_1, .int pa_34, .int lm_34, .ref s8_1, .ref s9_1, .ref s10_1, .int fm_34, .ref s11_1, .int nm_34, .ref s12_1, .ref s13_1, .ref s14_1, .int 0, .ref s15_1, .ref s16_1, .ref s17_1, .ref s18_1]) := va_up_self _ _ _
                            have eq_60 := (va_up_ne fl50 (.inr (3, [.ref s1_1, .ref s2_1, .ref s3_1, .ref s4_1, .ref s5_1, .ref s6_1, .ref s7_1, .int pa_34, .int lm_34, .ref s8_1, .ref s9_1, .ref s10_1, .int fm_34, .ref s11_1, .int nm_34, .ref s12_1, .ref s13_1, .ref s14_1, .int 0, .ref s15_1, .ref s16_1, .ref s17_1, .ref s18_1])) (isr_ne fs2_1 hg0 (by decide))).trans e_41
                            have eq_61 := (va_up_ne fl50 (.inr (3, [.ref s1_1, .ref s2_1, .ref s3_1, .ref s4_1, .ref s5_1, .ref s6_1, .ref s7_1, .int pa_34, .int lm_34, .ref s8_1, .ref s9_1, .ref s10_1, .int fm_34, .ref s11_1, .int nm_34, .ref s12_1, .ref s13_1, .ref s14_1, .int 0, .ref s15_1, .ref s16_1, .ref s17_1, .ref s18_1])) (isr_ne fs3_1 hg0 (by decide))).trans e_47
                            have hfr := fr_up (S := (sK [10, 21, 22, 23, 24])) (e := .inr (3, [.ref s1_1, .ref s2_1, .ref s3_1, .ref s4_1, .ref s5_1, .ref s6_1, .ref s7_1, .int pa_34, .int lm_34, .ref s8_1, .ref s9_1, .ref s10_1, .int fm_34, .ref s11_1, .int nm_34, .ref s12_1, .ref s13_1, .ref s14_1, .int 0, .ref s15_1, .ref s16_1, .ref s17_1, .ref s18_1])) hfr hg0 (by decide)
                            have hXL := XL.up (e := .inr (3, [.ref s1_1, .ref s2_1, .ref s3_1, .ref s4_1, .ref s5_1, .ref s6_1, .ref s7_1, .int pa_34, .int lm_34, .ref s8_1, .ref s9_1, .ref s10_1, .int fm_34, .ref s11_1, .int nm_34, .ref s12_1, .ref s13_1, .ref s14_1, .int 0, .ref s15_1, .ref s16_1, .ref s17_1, .ref s18_1])) hXL hg0 (by decide) (by decide)
                            have hKP := hKP.put e_34 es_f_59 ⟨rfl, rfl⟩
                            generalize va_up fl50 g0 (.inr (3, [.ref s1_1, .ref s2_1, .ref s3_1, .ref s4_1, .ref s5_1, .ref s6_1, .ref s7_1, .int pa_34, .int lm_34, .ref s8_1, .ref s9_1, .ref s10_1, .int fm_34, .ref s11_1, .int nm_34, .ref s12_1, .ref s13_1, .ref s14_1, .int 0, .ref s15_1, .ref s16_1, .ref s17_1, .ref s18_1])) = f_59 at hP hD hPI es_f_59 eq_60 eq_61 hfr hXL hKP
                            refine lv_aload_n hx hb dX3_find_140 rfl (lv_at hl 4 rfl) ?_
                            obtain ⟨k_62, hk_62⟩ := va_plg hg0.1 es_f_59
                            refine va_get (D := (dC, dI)) (ci := 3) (v := .ref s11_1) (C := RX3) (T := TX3) (N := 23) hx hb hts iX3_ hown hK hP k_62 hk_62 rfl 13 (by decide) (hts (.fieldLink RX3 44 "FieldLeavesModel" "found" "[I") (by decide +kernel)) (fun _ h9 => h9) rfl dX3_find_141 ?_
                            refine lv_aload_n hx hb dX3_find_144 rfl (lv_at hl 4 rfl) ?_
                            obtain ⟨k_63, hk_63⟩ := va_plg hg0.1 es_f_59
                            refine va_get (D := (dC, dI)) (ci := 3) (v := .int fm_34) (C := RX3) (T := TX3) (N := 23) hx hb hts iX3_ hown hK hP k_63 hk_63 rfl 12 (by decide) (hts (.fieldLink RX3 167 "FieldLeavesModel" "foundMany" "I") (by decide +kernel)) (fun _ h9 => h9) rfl dX3_find_145 ?_
                            refine lv_bipush (v := 24) hx hb dX3_find_148 (by decide) ?_
                            refine lv_icmp_ge (tgt := 160) hx hb dX3_find_150 (by decide) (fun c_64 => ?_) (fun c_64 => ?_)
                            · have c_64 := Int32.le_iff_toInt_le.mp c_64
                              refine lv_bipush (v := 24) hx hb dX3_find_160 (by decide) ?_
                              refine lv_iload hx hb dX3_find_162 (lv_at hl 0 rfl) ?_
                              obtain ⟨g_65, e_65, fg_65⟩ := hPI.a21 fs11_1
                              obtain ⟨k_65, hk_65⟩ := va_plg fs11_1.1 e_65
                              have h_65 : vp_in 24 25 := (vp_in_iff.mpr (by decide))
                              have fw_65 := updS (P := fun v => 0 ≤ v.toInt ∧ v.toInt < 6400) (k := Int32.toNatClampNeg 24) (v := z_48) fg_65 (by omega)
                              have hD9 := hD
                              refine va_iast hx hb hK hP hD hS k_65 0 hk_65 rfl h_65 dX3_find_164 (fun H locs hP hD hS => ?_)
                              have hP : va_P (dC, dI) vwCl (va_pl L (va_up f_59 s11_1 (.inl (kI, 25, .inl (upd g_65 (Int32.toNatClampNeg 24) z_48))))) H := by rw [← va_pls hD9 fs11_1.1 hk_65 _]; exact hP
                              have hD : va_D A (va_pl L (va_up f_59 s11_1 (.inl (kI, 25, .inl (upd g_65 (Int32.toNatClampNeg 24) z_48))))) := by rw [← va_pls hD9 fs11_1.1 hk_65 _]; exact hD
                              have hPI := hPI.put (e := .inl (kI, 25, .inl (upd g_65 (Int32.toNatClampNeg 24) z_48))) fs11_1 ⟨_, rfl, fw_65⟩
                              have es_f_66 : va_up f_59 s11_1 (.inl (kI, 25, .inl (upd g_65 (Int32.toNatClampNeg 24) z_48))) s11_1 = .inl (kI, 25, .inl (upd g_65 (Int32.toNatClampNeg 24) z_48)) := va_up_self _ _ _
                              have eq_67 := (va_up_ne f_59 (.inl (kI, 25, .inl (upd g_65 (Int32.toNatClampNeg 24) z_48))) (isr_ne hg0 fs11_1 (by decide))).trans es_f_59
                              have eq_68 := (va_up_ne f_59 (.inl (kI, 25, .inl (upd g_65 (Int32.toNatClampNeg 24) z_48))) (isr_ne fs2_1 fs11_1 (by decide))).trans eq_60
                              have eq_69 := (va_up_ne f_59 (.inl (kI, 25, .inl (upd g_65 (Int32.toNatClampNeg 24) z_48))) (isr_ne fs3_1 fs11_1 (by decide))).trans eq_61
                              have hfr := fr_up (S := (sK [10, 21, 22, 23, 24])) (e := .inl (kI, 25, .inl (upd g_65 (Int32.toNatClampNeg 24) z_48))) hfr fs11_1 (by decide)
                              have hXL := XL.up (e := .inl (kI, 25, .inl (upd g_65 (Int32.toNatClampNeg 24) z_48))) hXL fs11_1 (by decide) (by decide)
                              have hKP := hKP.same (va_up_ne f_59 (.inl (kI, 25, .inl (upd g_65 (Int32.toNatClampNeg 24) z_48))) (isr_ne hg0 fs11_1 (by decide)))
                              generalize va_up f_59 s11_1 (.inl (kI, 25, .inl (upd g_65 (Int32.toNatClampNeg 24) z_48))) = f_66 at hP hD hPI es_f_66 eq_67 eq_68 eq_69 hfr hXL hKP
                              refine lv_aload_n hx hb dX3_find_165 rfl (lv_at hl 4 rfl) ?_
                              refine lv_dup hx hb dX3_find_166 rfl ?_
                              obtain ⟨k_70, hk_70⟩ := va_plg hg0.1 eq_67
                              refine va_get (D := (dC, dI)) (ci := 3) (v := .int fm_34) (C := RX3) (T := TX3) (N := 23) hx hb hts iX3_ hown hK hP k_70 hk_70 rfl 12 (by decide) (hts (.fieldLink RX3 167 "FieldLeavesModel" "foundMany" "I") (by decide +kernel)) (fun _ h9 => h9) rfl dX3_find_167 ?_
                              refine lv_aload_n hx hb dX3_find_170 rfl (lv_at hl 4 rfl) ?_
                              obtain ⟨k_71, hk_71⟩ := va_plg hg0.1 eq_67
                              refine va_get (D := (dC, dI)) (ci := 3) (v := .int fm_34) (C := RX3) (T := TX3) (N := 23) hx hb hts iX3_ hown hK hP k_71 hk_71 rfl 12 (by decide) (hts (.fieldLink RX3 167 "FieldLeavesModel" "foundMany" "I") (by decide +kernel)) (fun _ h9 => h9) rfl dX3_find_171 ?_
                              refine lv_bipush (v := 24) hx hb dX3_find_174 (by decide) ?_
                              refine lv_icmp_ge (tgt := 183) hx hb dX3_find_176 (by decide) (fun c_72 => ?_) (fun c_72 => ?_)
                              · have c_72 := Int32.le_iff_toInt_le.mp c_72
                                refine lv_iconst (v := 0) hx hb dX3_find_183 (by decide) ?_
                                refine lv_iadd hx hb dX3_find_184 ?_
                                refine lv_topi (fun z_73 ez_73 => ?_)
                                have kz_73 := add_toInt ez_73 (by omega) (by omega)
                                obtain ⟨k_74, hk_74⟩ := va_plg hg0.1 eq_67
                                have hD9 := hD
                                have rg_75 : 0 ≤ Int32.toInt z_73 ∧ Int32.toInt z_73 ≤ 24 := by constructor <;> omega
                                refine va_put (D := (dC, dI)) (ci := 3) (v := .int z_73) (ty := .int) (C := RX3) (T := TX3) (N := 23) hx hb hts iX3_ tyX3 tyX3_ok nmX3 hown hK hP hD hS k_74 hk_74 rfl 12 (by decide) (hts (.fieldLink RX3 167 "FieldLeavesModel" "foundMany" "I") (by decide +kernel)) (fun _ h9 => h9) rfl (by decide +kernel) rfl rfl (Nat.le_of_ble_eq_true rfl) dX3_find_185 (fun H locs hP hD hS => ?_)
                                have hP : va_P (dC, dI) vwCl (va_pl L (va_up f_66 g0 (.inr (3, [.ref s1_1, .ref s2_1, .ref s3_1, .ref s4_1, .ref s5_1, .ref s6_1, .ref s7_1, .int pa_34, .int lm_34, .ref s8_1, .ref s9_1, .ref s10_1, .int z_73, .ref s11_1, .int nm_34, .ref s12_1, .ref s13_1, .ref s14_1, .int 0, .ref s15_1, .ref s16_1, .ref s17_1, .ref s18_1])))) H := by rw [← va_pls hD9 hg0.1 hk_74 _]; exact hP
                                have hD : va_D A (va_pl L (va_up f_66 g0 (.inr (3, [.ref s1_1, .ref s2_1, .ref s3_1, .ref s4_1, .ref s5_1, .ref s6_1, .ref s7_1, .int pa_34, .int lm_34, .ref s8_1, .ref s9_1, .ref s10_1, .int z_73, .ref s11_1, .int nm_34, .ref s12_1, .ref s13_1, .ref s14_1, .int 0, .ref s15_1, .ref s16_1, .ref s17_1, .ref s18_1])))) := by rw [← va_pls hD9 hg0.1 hk_74 _]; exact hD
                                have hPI := hPI.put (e := .inr (3, [.ref s1_1, .ref s2_1, .ref s3_1, .ref s4_1, .ref s5_1, .ref s6_1, .ref s7_1, .int pa_34, .int lm_34, .ref s8_1, .ref s9_1, .ref s10_1, .int z_73, .ref s11_1, .int nm_34, .ref s12_1, .ref s13_1, .ref s14_1, .int 0, .ref s15_1, .ref s16_1, .ref s17_1, .ref s18_1])) hg0 ⟨s1_1, s2_1, s3_1, s4_1, s5_1, s6_1, s7_1, pa_34, lm_34, s8_1, s9_1, s10_1, z_73, s11_1, nm_34, s12_1, s13_1, s14_1, 0, s15_1, s16_1, s17_1, s18_1, rfl, fs1_1, fs2_1, fs3_1, fs4_1, fs5_1, fs6_1, fs7_1, flm_34, fs8_1, fs9_1, fs10_1, rg_75, fs11_1, fnm_34, fs12_1, fs13_1, fs14_1, (Or.inr rfl), fs15_1, fs16_1, fs17_1, fs18_1⟩
                                have es_f_76 : va_up f_66 g0 (.inr (3, [.ref s1_1, .ref s2_1, .ref s3_1, .ref s4_1, .ref s5_1, .ref s6_1, .ref s7_1, .int pa_34, .int lm_34, .ref s8_1, .ref s9_1, .ref s10_1, .int z_73, .ref s11_1, .int nm_34, .ref s12_1, .ref s13_1, .ref s14_1, .int 0, .ref s15_1, .ref s16_1, .ref s17_1, .ref s18_1])) g0 = .inr (3, [.ref s1_1, .ref s2_1, .ref s3_1, .ref s4_1, .ref s5_1, .ref s6_1, .ref s7_1, .int pa_34, .int lm_34, .ref s8_1, .ref s9_1, .ref s10_1, .int z_73, .ref s11_1, .int nm_34, .ref s12_1, .ref s13_1, .ref s14_1, .int 0, .ref s15_1, .ref s16_1, .ref s17_1, .ref s18_1]) := va_up_self _ _ _
                                have eq_77 := (va_up_ne f_66 (.inr (3, [.ref s1_1, .ref s2_1, .ref s3_1, .ref s4_1, .ref s5_1, .ref s6_1, .ref s7_1, .int pa_34, .int lm_34, .ref s8_1, .ref s9_1, .ref s10_1, .int z_73, .ref s11_1, .int nm_34, .ref s12_1, .ref s13_1, .ref s14_1, .int 0, .ref s15_1, .ref s16_1, .ref s17_1, .ref s18_1])) (isr_ne fs2_1 hg0 (by decide))).trans eq_68
                                have eq_78 := (va_up_ne f_66 (.inr (3, [.ref s1_1, .ref s2_1, .ref s3_1, .ref s4_1, .ref s5_1, .ref s6_1, .ref s7_1, .int pa_34, .int lm_34, .ref s8_1, .ref s9_1, .ref s10_1, .int z_73, .ref s11_1, .int nm_34, .ref s12_1, .ref s13_1, .ref s14_1, .int 0, .ref s15_1, .ref s16_1, .ref s17_1, .ref s18_1])) (isr_ne fs3_1 hg0 (by decide))).trans eq_69
                                have eq_79 := (va_up_ne f_66 (.inr (3, [.ref s1_1, .ref s2_1, .ref s3_1, .ref s4_1, .ref s5_1, .ref s6_1, .ref s7_1, .int pa_34, .int lm_34, .ref s8_1, .ref s9_1, .ref s10_1, .int z_73, .ref s11_1, .int nm_34, .ref s12_1, .ref s13_1, .ref s14_1, .int 0, .ref s15_1, .ref s16_1, .ref s17_1, .ref s18_1])) (isr_ne fs11_1 hg0 (by decide))).trans es_f_66
                                have hfr := fr_up (S := (sK [10, 21, 22, 23, 24])) (e := .inr (3, [.ref s1_1, .ref s2_1, .ref s3_1, .ref s4_1, .ref s5_1, .ref s6_1, .ref s7_1, .int pa_34, .int lm_34, .ref s8_1, .ref s9_1, .ref s10_1, .int z_73, .ref s11_1, .int nm_34, .ref s12_1, .ref s13_1, .ref s14_1, .int 0, .ref s15_1, .ref s16_1, .ref s17_1, .ref s18_1])) hfr hg0 (by decide)
                                have hXL := XL.up (e := .inr (3, [.ref s1_1, .ref s2_1, .ref s3_1, .ref s4_1, .ref s5_1, .ref s6_1, .ref s7_1, .int pa_34, .int lm_34, .ref s8_1, .ref s9_1, .ref s10_1, .int z_73, .ref s11_1, .int nm_34, .ref s12_1, .ref s13_1, .ref s14_1, .int 0, .ref s15_1, .ref s16_1, .ref s17_1, .ref s18_1])) hXL hg0 (by decide) (by decide)
                                have hKP := hKP.put eq_67 es_f_76 ⟨rfl, rfl⟩
                                generalize va_up f_66 g0 (.inr (3, [.ref s1_1, .ref s2_1, .ref s3_1, .ref s4_1, .ref s5_1, .ref s6_1, .ref s7_1, .int pa_34, .int lm_34, .ref s8_1, .ref s9_1, .ref s10_1, .int z_73, .ref s11_1, .int nm_34, .ref s12_1, .ref s13_1, .ref s14_1, .int 0, .ref s15_1, .ref s16_1, .ref s17_1, .ref s18_1])) = f_76 at hP hD hPI es_f_76 eq_77 eq_78 eq_79 hfr hXL hKP
                                obtain ⟨i_80, ei_80⟩ : ∃ y : Int32, y = i4 + 1 := ⟨_, rfl⟩
                                refine lv_iinc (v := i_80) (lv' := [(4, .int i_80), (5, .int z_48), (3, .int z_33), (2, .int i2), (0, .ref g0), (1, .int o0)]) hx hb dX3_find_188 hl (k := 1) rfl (by rw [ei_80]; rfl) (by decide) rfl (fun ls hl => ?_)
                                have ki_80 := inc_toInt ei_80 (by omega)
                                refine lv_goto (tgt := 50) hx hb dX3_find_191 (by decide) ?_
                                exact ih_50 i_80 f_76 _ _ _  (by omega) (by omega) ⟨hfr, ⟨hXL, hKP, (congrArg (vAt · 14) es_f_76).trans hnm_35⟩⟩ hPI hP hD hS (lv_sub hl [0, 2, 3, 4, 5] rfl)
                              · have c_72 := mt Int32.le_iff_toInt_le.mpr c_72
                                refine lv_iconst (v := 1) hx hb dX3_find_179 (by decide) ?_
                                refine lv_goto (tgt := 184) hx hb dX3_find_180 (by decide) ?_
                                refine lv_iadd hx hb dX3_find_184 ?_
                                refine lv_topi (fun z_81 ez_81 => ?_)
                                have kz_81 := add_toInt ez_81 (by omega) (by omega)
                                obtain ⟨k_82, hk_82⟩ := va_plg hg0.1 eq_67
                                have hD9 := hD
                                have rg_83 : 0 ≤ Int32.toInt z_81 ∧ Int32.toInt z_81 ≤ 24 := by constructor <;> omega
                                refine va_put (D := (dC, dI)) (ci := 3) (v := .int z_81) (ty := .int) (C := RX3) (T := TX3) (N := 23) hx hb hts iX3_ tyX3 tyX3_ok nmX3 hown hK hP hD hS k_82 hk_82 rfl 12 (by decide) (hts (.fieldLink RX3 167 "FieldLeavesModel" "foundMany" "I") (by decide +kernel)) (fun _ h9 => h9) rfl (by decide +kernel) rfl rfl (Nat.le_of_ble_eq_true rfl) dX3_find_185 (fun H locs hP hD hS => ?_)
                                have hP : va_P (dC, dI) vwCl (va_pl L (va_up f_66 g0 (.inr (3, [.ref s1_1, .ref s2_1, .ref s3_1, .ref s4_1, .ref s5_1, .ref s6_1, .ref s7_1, .int pa_34, .int lm_34, .ref s8_1, .ref s9_1, .ref s10_1, .int z_81, .ref s11_1, .int nm_34, .ref s12_1, .ref s13_1, .ref s14_1, .int 0, .ref s15_1, .ref s16_1, .ref s17_1, .ref s18_1])))) H := by rw [← va_pls hD9 hg0.1 hk_82 _]; exact hP
                                have hD : va_D A (va_pl L (va_up f_66 g0 (.inr (3, [.ref s1_1, .ref s2_1, .ref s3_1, .ref s4_1, .ref s5_1, .ref s6_1, .ref s7_1, .int pa_34, .int lm_34, .ref s8_1, .ref s9_1, .ref s10_1, .int z_81, .ref s11_1, .int nm_34, .ref s12_1, .ref s13_1, .ref s14_1, .int 0, .ref s15_1, .ref s16_1, .ref s17_1, .ref s18_1])))) := by rw [← va_pls hD9 hg0.1 hk_82 _]; exact hD
                                have hPI := hPI.put (e := .inr (3, [.ref s1_1, .ref s2_1, .ref s3_1, .ref s4_1, .ref s5_1, .ref s6_1, .ref s7_1, .int pa_34, .int lm_34, .ref s8_1, .ref s9_1, .ref s10_1, .int z_81, .ref s11_1, .int nm_34, .ref s12_1, .ref s13_1, .ref s14_1, .int 0, .ref s15_1, .ref s16_1, .ref s17_1, .ref s18_1])) hg0 ⟨s1_1, s2_1, s3_1, s4_1, s5_1, s6_1, s7_1, pa_34, lm_34, s8_1, s9_1, s10_1, z_81, s11_1, nm_34, s12_1, s13_1, s14_1, 0, s15_1, s16_1, s17_1, s18_1, rfl, fs1_1, fs2_1, fs3_1, fs4_1, fs5_1, fs6_1, fs7_1, flm_34, fs8_1, fs9_1, fs10_1, rg_83, fs11_1, fnm_34, fs12_1, fs13_1, fs14_1, (Or.inr rfl), fs15_1, fs16_1, fs17_1, fs18_1⟩
                                have es_f_84 : va_up f_66 g0 (.inr (3, [.ref s1_1, .ref s2_1, .ref s3_1, .ref s4_1, .ref s5_1, .ref s6_1, .ref s7_1, .int pa_34, .int lm_34, .ref s8_1, .ref s9_1, .ref s10_1, .int z_81, .ref s11_1, .int nm_34, .ref s12_1, .ref s13_1, .ref s14_1, .int 0, .ref s15_1, .ref s16_1, .ref s17_1, .ref s18_1])) g0 = .inr (3, [.ref s1_1, .ref s2_1, .ref s3_1, .ref s4_1, .ref s5_1, .ref s6_1, .ref s7_1, .int pa_34, .int lm_34, .ref s8_1, .ref s9_1, .ref s10_1, .int z_81, .ref s11_1, .int nm_34, .ref s12_1, .ref s13_1, .ref s14_1, .int 0, .ref s15_1, .ref s16_1, .ref s17_1, .ref s18_1]) := va_up_self _ _ _
                                have eq_85 := (va_up_ne f_66 (.inr (3, [.ref s1_1, .ref s2_1, .ref s3_1, .ref s4_1, .ref s5_1, .ref s6_1, .ref s7_1, .int pa_34, .int lm_34, .ref s8_1, .ref s9_1, .ref s10_1, .int z_81, .ref s11_1, .int nm_34, .ref s12_1, .ref s13_1, .ref s14_1, .int 0, .ref s15_1, .ref s16_1, .ref s17_1, .ref s18_1])) (isr_ne fs2_1 hg0 (by decide))).trans eq_68
                                have eq_86 := (va_up_ne f_66 (.inr (3, [.ref s1_1, .ref s2_1, .ref s3_1, .ref s4_1, .ref s5_1, .ref s6_1, .ref s7_1, .int pa_34, .int lm_34, .ref s8_1, .ref s9_1, .ref s10_1, .int z_81, .ref s11_1, .int nm_34, .ref s12_1, .ref s13_1, .ref s14_1, .int 0, .ref s15_1, .ref s16_1, .ref s17_1, .ref s18_1])) (isr_ne fs3_1 hg0 (by decide))).trans eq_69
                                have eq_87 := (va_up_ne f_66 (.inr (3, [.ref s1_1, .ref s2_1, .ref s3_1, .ref s4_1, .ref s5_1, .ref s6_1, .ref s7_1, .int pa_34, .int lm_34, .ref s8_1, .ref s9_1, .ref s10_1, .int z_81, .ref s11_1, .int nm_34, .ref s12_1, .ref s13_1, .ref s14_1, .int 0, .ref s15_1, .ref s16_1, .ref s17_1, .ref s18_1])) (isr_ne fs11_1 hg0 (by decide))).trans es_f_66
                                have hfr := fr_up (S := (sK [10, 21, 22, 23, 24])) (e := .inr (3, [.ref s1_1, .ref s2_1, .ref s3_1, .ref s4_1, .ref s5_1, .ref s6_1, .ref s7_1, .int pa_34, .int lm_34, .ref s8_1, .ref s9_1, .ref s10_1, .int z_81, .ref s11_1, .int nm_34, .ref s12_1, .ref s13_1, .ref s14_1, .int 0, .ref s15_1, .ref s16_1, .ref s17_1, .ref s18_1])) hfr hg0 (by decide)
                                have hXL := XL.up (e := .inr (3, [.ref s1_1, .ref s2_1, .ref s3_1, .ref s4_1, .ref s5_1, .ref s6_1, .ref s7_1, .int pa_34, .int lm_34, .ref s8_1, .ref s9_1, .ref s10_1, .int z_81, .ref s11_1, .int nm_34, .ref s12_1, .ref s13_1, .ref s14_1, .int 0, .ref s15_1, .ref s16_1, .ref s17_1, .ref s18_1])) hXL hg0 (by decide) (by decide)
                                have hKP := hKP.put eq_67 es_f_84 ⟨rfl, rfl⟩
                                generalize va_up f_66 g0 (.inr (3, [.ref s1_1, .ref s2_1, .ref s3_1, .ref s4_1, .ref s5_1, .ref s6_1, .ref s7_1, .int pa_34, .int lm_34, .ref s8_1, .ref s9_1, .ref s10_1, .int z_81, .ref s11_1, .int nm_34, .ref s12_1, .ref s13_1, .ref s14_1, .int 0, .ref s15_1, .ref s16_1, .ref s17_1, .ref s18_1])) = f_84 at hP hD hPI es_f_84 eq_85 eq_86 eq_87 hfr hXL hKP
                                obtain ⟨i_88, ei_88⟩ : ∃ y : Int32, y = i4 + 1 := ⟨_, rfl⟩
                                refine lv_iinc (v := i_88) (lv' := [(4, .int i_88), (5, .int z_48), (3, .int z_33), (2, .int i2), (0, .ref g0), (1, .int o0)]) hx hb dX3_find_188 hl (k := 1) rfl (by rw [ei_88]; rfl) (by decide) rfl (fun ls hl => ?_)
                                have ki_88 := inc_toInt ei_88 (by omega)
                                refine lv_goto (tgt := 50) hx hb dX3_find_191 (by decide) ?_
                                exact ih_50 i_88 f_84 _ _ _  (by omega) (by omega) ⟨hfr, ⟨hXL, hKP, (congrArg (vAt · 14) es_f_84).trans hnm_35⟩⟩ hPI hP hD hS (lv_sub hl [0, 2, 3, 4, 5] rfl)
                            · have c_64 := mt Int32.le_iff_toInt_le.mpr c_64
                              refine lv_aload_n hx hb dX3_find_153 rfl (lv_at hl 4 rfl) ?_
                              obtain ⟨k_89, hk_89⟩ := va_plg hg0.1 es_f_59
                              refine va_get (D := (dC, dI)) (ci := 3) (v := .int fm_34) (C := RX3) (T := TX3) (N := 23) hx hb hts iX3_ hown hK hP k_89 hk_89 rfl 12 (by decide) (hts (.fieldLink RX3 167 "FieldLeavesModel" "foundMany" "I") (by decide +kernel)) (fun _ h9 => h9) rfl dX3_find_154 ?_
                              refine lv_goto (tgt := 162) hx hb dX3_find_157 (by decide) ?_
                              refine lv_iload hx hb dX3_find_162 (lv_at hl 0 rfl) ?_
                              obtain ⟨g_90, e_90, fg_90⟩ := hPI.a21 fs11_1
                              obtain ⟨k_90, hk_90⟩ := va_plg fs11_1.1 e_90
                              have h_90 : vp_in fm_34 25 := (vp_in_iff.mpr (by constructor <;> omega))
                              have fw_90 := updS (P := fun v => 0 ≤ v.toInt ∧ v.toInt < 6400) (k := Int32.toNatClampNeg fm_34) (v := z_48) fg_90 (by omega)
                              have hD9 := hD
                              refine va_iast hx hb hK hP hD hS k_90 0 hk_90 rfl h_90 dX3_find_164 (fun H locs hP hD hS => ?_)
                              have hP : va_P (dC, dI) vwCl (va_pl L (va_up f_59 s11_1 (.inl (kI, 25, .inl (upd g_90 (Int32.toNatClampNeg fm_34) z_48))))) H := by rw [← va_pls hD9 fs11_1.1 hk_90 _]; exact hP
                              have hD : va_D A (va_pl L (va_up f_59 s11_1 (.inl (kI, 25, .inl (upd g_90 (Int32.toNatClampNeg fm_34) z_48))))) := by rw [← va_pls hD9 fs11_1.1 hk_90 _]; exact hD
                              have hPI := hPI.put (e := .inl (kI, 25, .inl (upd g_90 (Int32.toNatClampNeg fm_34) z_48))) fs11_1 ⟨_, rfl, fw_90⟩
                              have es_f_91 : va_up f_59 s11_1 (.inl (kI, 25, .inl (upd g_90 (Int32.toNatClampNeg fm_34) z_48))) s11_1 = .inl (kI, 25, .inl (upd g_90 (Int32.toNatClampNeg fm_34) z_48)) := va_up_self _ _ _
                              have eq_92 := (va_up_ne f_59 (.inl (kI, 25, .inl (upd g_90 (Int32.toNatClampNeg fm_34) z_48))) (isr_ne hg0 fs11_1 (by decide))).trans es_f_59
                              have eq_93 := (va_up_ne f_59 (.inl (kI, 25, .inl (upd g_90 (Int32.toNatClampNeg fm_34) z_48))) (isr_ne fs2_1 fs11_1 (by decide))).trans eq_60
                              have eq_94 := (va_up_ne f_59 (.inl (kI, 25, .inl (upd g_90 (Int32.toNatClampNeg fm_34) z_48))) (isr_ne fs3_1 fs11_1 (by decide))).trans eq_61
                              have hfr := fr_up (S := (sK [10, 21, 22, 23, 24])) (e := .inl (kI, 25, .inl (upd g_90 (Int32.toNatClampNeg fm_34) z_48))) hfr fs11_1 (by decide)
                              have hXL := XL.up (e := .inl (kI, 25, .inl (upd g_90 (Int32.toNatClampNeg fm_34) z_48))) hXL fs11_1 (by decide) (by decide)
                              have hKP := hKP.same (va_up_ne f_59 (.inl (kI, 25, .inl (upd g_90 (Int32.toNatClampNeg fm_34) z_48))) (isr_ne hg0 fs11_1 (by decide)))
                              generalize va_up f_59 s11_1 (.inl (kI, 25, .inl (upd g_90 (Int32.toNatClampNeg fm_34) z_48))) = f_91 at hP hD hPI es_f_91 eq_92 eq_93 eq_94 hfr hXL hKP
                              refine lv_aload_n hx hb dX3_find_165 rfl (lv_at hl 4 rfl) ?_
                              refine lv_dup hx hb dX3_find_166 rfl ?_
                              obtain ⟨k_95, hk_95⟩ := va_plg hg0.1 eq_92
                              refine va_get (D := (dC, dI)) (ci := 3) (v := .int fm_34) (C := RX3) (T := TX3) (N := 23) hx hb hts iX3_ hown hK hP k_95 hk_95 rfl 12 (by decide) (hts (.fieldLink RX3 167 "FieldLeavesModel" "foundMany" "I") (by decide +kernel)) (fun _ h9 => h9) rfl dX3_find_167 ?_
                              refine lv_aload_n hx hb dX3_find_170 rfl (lv_at hl 4 rfl) ?_
                              obtain ⟨k_96, hk_96⟩ := va_plg hg0.1 eq_92
                              refine va_get (D := (dC, dI)) (ci := 3) (v := .int fm_34) (C := RX3) (T := TX3) (N := 23) hx hb hts iX3_ hown hK hP k_96 hk_96 rfl 12 (by decide) (hts (.fieldLink RX3 167 "FieldLeavesModel" "foundMany" "I") (by decide +kernel)) (fun _ h9 => h9) rfl dX3_find_171 ?_
                              refine lv_bipush (v := 24) hx hb dX3_find_174 (by decide) ?_
                              refine lv_icmp_ge (tgt := 183) hx hb dX3_find_176 (by decide) (fun c_97 => ?_) (fun c_97 => ?_)
                              · have c_97 := Int32.le_iff_toInt_le.mp c_97
                                refine lv_iconst (v := 0) hx hb dX3_find_183 (by decide) ?_
                                refine lv_iadd hx hb dX3_find_184 ?_
                                refine lv_topi (fun z_98 ez_98 => ?_)
                                have kz_98 := add_toInt ez_98 (by omega) (by omega)
                                obtain ⟨k_99, hk_99⟩ := va_plg hg0.1 eq_92
                                have hD9 := hD
                                have rg_100 : 0 ≤ Int32.toInt z_98 ∧ Int32.toInt z_98 ≤ 24 := by constructor <;> omega
                                refine va_put (D := (dC, dI)) (ci := 3) (v := .int z_98) (ty := .int) (C := RX3) (T := TX3) (N := 23) hx hb hts iX3_ tyX3 tyX3_ok nmX3 hown hK hP hD hS k_99 hk_99 rfl 12 (by decide) (hts (.fieldLink RX3 167 "FieldLeavesModel" "foundMany" "I") (by decide +kernel)) (fun _ h9 => h9) rfl (by decide +kernel) rfl rfl (Nat.le_of_ble_eq_true rfl) dX3_find_185 (fun H locs hP hD hS => ?_)
                                have hP : va_P (dC, dI) vwCl (va_pl L (va_up f_91 g0 (.inr (3, [.ref s1_1, .ref s2_1, .ref s3_1, .ref s4_1, .ref s5_1, .ref s6_1, .ref s7_1, .int pa_34, .int lm_34, .ref s8_1, .ref s9_1, .ref s10_1, .int z_98, .ref s11_1, .int nm_34, .ref s12_1, .ref s13_1, .ref s14_1, .int 0, .ref s15_1, .ref s16_1, .ref s17_1, .ref s18_1])))) H := by rw [← va_pls hD9 hg0.1 hk_99 _]; exact hP
                                have hD : va_D A (va_pl L (va_up f_91 g0 (.inr (3, [.ref s1_1, .ref s2_1, .ref s3_1, .ref s4_1, .ref s5_1, .ref s6_1, .ref s7_1, .int pa_34, .int lm_34, .ref s8_1, .ref s9_1, .ref s10_1, .int z_98, .ref s11_1, .int nm_34, .ref s12_1, .ref s13_1, .ref s14_1, .int 0, .ref s15_1, .ref s16_1, .ref s17_1, .ref s18_1])))) := by rw [← va_pls hD9 hg0.1 hk_99 _]; exact hD
                                have hPI := hPI.put (e := .inr (3, [.ref s1_1, .ref s2_1, .ref s3_1, .ref s4_1, .ref s5_1, .ref s6_1, .ref s7_1, .int pa_34, .int lm_34, .ref s8_1, .ref s9_1, .ref s10_1, .int z_98, .ref s11_1, .int nm_34, .ref s12_1, .ref s13_1, .ref s14_1, .int 0, .ref s15_1, .ref s16_1, .ref s17_1, .ref s18_1])) hg0 ⟨s1_1, s2_1, s3_1, s4_1, s5_1, s6_1, s7_1, pa_34, lm_34, s8_1, s9_1, s10_1, z_98, s11_1, nm_34, s12_1, s13_1, s14_1, 0, s15_1, s16_1, s17_1, s18_1, rfl, fs1_1, fs2_1, fs3_1, fs4_1, fs5_1, fs6_1, fs7_1, flm_34, fs8_1, fs9_1, fs10_1, rg_100, fs11_1, fnm_34, fs12_1, fs13_1, fs14_1, (Or.inr rfl), fs15_1, fs16_1, fs17_1, fs18_1⟩
                                have es_f_101 : va_up f_91 g0 (.inr (3, [.ref s1_1, .ref s2_1, .ref s3_1, .ref s4_1, .ref s5_1, .ref s6_1, .ref s7_1, .int pa_34, .int lm_34, .ref s8_1, .ref s9_1, .ref s10_1, .int z_98, .ref s11_1, .int nm_34, .ref s12_1, .ref s13_1, .ref s14_1, .int 0, .ref s15_1, .ref s16_1, .ref s17_1, .ref s18_1])) g0 = .inr (3, [.ref s1_1, .ref s2_1, .ref s3_1, .ref s4_1, .ref s5_1, .ref s6_1, .ref s7_1, .int pa_34, .int lm_34, .ref s8_1, .ref s9_1, .ref s10_1, .int z_98, .ref s11_1, .int nm_34, .ref s12_1, .ref s13_1, .ref s14_1, .int 0, .ref s15_1, .ref s16_1, .ref s17_1, .ref s18_1]) := va_up_self _ _ _
                                have eq_102 := (va_up_ne f_91 (.inr (3, [.ref s1_1, .ref s2_1, .ref s3_1, .ref s4_1, .ref s5_1, .ref s6_1, .ref s7_1, .int pa_34, .int lm_34, .ref s8_1, .ref s9_1, .ref s10_1, .int z_98, .ref s11_1, .int nm_34, .ref s12_1, .ref s13_1, .ref s14_1, .int 0, .ref s15_1, .ref s16_1, .ref s17_1, .ref s18_1])) (isr_ne fs2_1 hg0 (by decide))).trans eq_93
                                have eq_103 := (va_up_ne f_91 (.inr (3, [.ref s1_1, .ref s2_1, .ref s3_1, .ref s4_1, .ref s5_1, .ref s6_1, .ref s7_1, .int pa_34, .int lm_34, .ref s8_1, .ref s9_1, .ref s10_1, .int z_98, .ref s11_1, .int nm_34, .ref s12_1, .ref s13_1, .ref s14_1, .int 0, .ref s15_1, .ref s16_1, .ref s17_1, .ref s18_1])) (isr_ne fs3_1 hg0 (by decide))).trans eq_94
                                have eq_104 := (va_up_ne f_91 (.inr (3, [.ref s1_1, .ref s2_1, .ref s3_1, .ref s4_1, .ref s5_1, .ref s6_1, .ref s7_1, .int pa_34, .int lm_34, .ref s8_1, .ref s9_1, .ref s10_1, .int z_98, .ref s11_1, .int nm_34, .ref s12_1, .ref s13_1, .ref s14_1, .int 0, .ref s15_1, .ref s16_1, .ref s17_1, .ref s18_1])) (isr_ne fs11_1 hg0 (by decide))).trans es_f_91
                                have hfr := fr_up (S := (sK [10, 21, 22, 23, 24])) (e := .inr (3, [.ref s1_1, .ref s2_1, .ref s3_1, .ref s4_1, .ref s5_1, .ref s6_1, .ref s7_1, .int pa_34, .int lm_34, .ref s8_1, .ref s9_1, .ref s10_1, .int z_98, .ref s11_1, .int nm_34, .ref s12_1, .ref s13_1, .ref s14_1, .int 0, .ref s15_1, .ref s16_1, .ref s17_1, .ref s18_1])) hfr hg0 (by decide)
                                have hXL := XL.up (e := .inr (3, [.ref s1_1, .ref s2_1, .ref s3_1, .ref s4_1, .ref s5_1, .ref s6_1, .ref s7_1, .int pa_34, .int lm_34, .ref s8_1, .ref s9_1, .ref s10_1, .int z_98, .ref s11_1, .int nm_34, .ref s12_1, .ref s13_1, .ref s14_1, .int 0, .ref s15_1, .ref s16_1, .ref s17_1, .ref s18_1])) hXL hg0 (by decide) (by decide)
                                have hKP := hKP.put eq_92 es_f_101 ⟨rfl, rfl⟩
                                generalize va_up f_91 g0 (.inr (3, [.ref s1_1, .ref s2_1, .ref s3_1, .ref s4_1, .ref s5_1, .ref s6_1, .ref s7_1, .int pa_34, .int lm_34, .ref s8_1, .ref s9_1, .ref s10_1, .int z_98, .ref s11_1, .int nm_34, .ref s12_1, .ref s13_1, .ref s14_1, .int 0, .ref s15_1, .ref s16_1, .ref s17_1, .ref s18_1])) = f_101 at hP hD hPI es_f_101 eq_102 eq_103 eq_104 hfr hXL hKP
                                obtain ⟨i_105, ei_105⟩ : ∃ y : Int32, y = i4 + 1 := ⟨_, rfl⟩
                                refine lv_iinc (v := i_105) (lv' := [(4, .int i_105), (5, .int z_48), (3, .int z_33), (2, .int i2), (0, .ref g0), (1, .int o0)]) hx hb dX3_find_188 hl (k := 1) rfl (by rw [ei_105]; rfl) (by decide) rfl (fun ls hl => ?_)
                                have ki_105 := inc_toInt ei_105 (by omega)
                                refine lv_goto (tgt := 50) hx hb dX3_find_191 (by decide) ?_
                                exact ih_50 i_105 f_101 _ _ _  (by omega) (by omega) ⟨hfr, ⟨hXL, hKP, (congrArg (vAt · 14) es_f_101).trans hnm_35⟩⟩ hPI hP hD hS (lv_sub hl [0, 2, 3, 4, 5] rfl)
                              · have c_97 := mt Int32.le_iff_toInt_le.mpr c_97
                                refine lv_iconst (v := 1) hx hb dX3_find_179 (by decide) ?_
                                refine lv_goto (tgt := 184) hx hb dX3_find_180 (by decide) ?_
                                refine lv_iadd hx hb dX3_find_184 ?_
                                refine lv_topi (fun z_106 ez_106 => ?_)
                                have kz_106 := add_toInt ez_106 (by omega) (by omega)
                                obtain ⟨k_107, hk_107⟩ := va_plg hg0.1 eq_92
                                have hD9 := hD
                                have rg_108 : 0 ≤ Int32.toInt z_106 ∧ Int32.toInt z_106 ≤ 24 := by constructor <;> omega
                                refine va_put (D := (dC, dI)) (ci := 3) (v := .int z_106) (ty := .int) (C := RX3) (T := TX3) (N := 23) hx hb hts iX3_ tyX3 tyX3_ok nmX3 hown hK hP hD hS k_107 hk_107 rfl 12 (by decide) (hts (.fieldLink RX3 167 "FieldLeavesModel" "foundMany" "I") (by decide +kernel)) (fun _ h9 => h9) rfl (by decide +kernel) rfl rfl (Nat.le_of_ble_eq_true rfl) dX3_find_185 (fun H locs hP hD hS => ?_)
                                have hP : va_P (dC, dI) vwCl (va_pl L (va_up f_91 g0 (.inr (3, [.ref s1_1, .ref s2_1, .ref s3_1, .ref s4_1, .ref s5_1, .ref s6_1, .ref s7_1, .int pa_34, .int lm_34, .ref s8_1, .ref s9_1, .ref s10_1, .int z_106, .ref s11_1, .int nm_34, .ref s12_1, .ref s13_1, .ref s14_1, .int 0, .ref s15_1, .ref s16_1, .ref s17_1, .ref s18_1])))) H := by rw [← va_pls hD9 hg0.1 hk_107 _]; exact hP
                                have hD : va_D A (va_pl L (va_up f_91 g0 (.inr (3, [.ref s1_1, .ref s2_1, .ref s3_1, .ref s4_1, .ref s5_1, .ref s6_1, .ref s7_1, .int pa_34, .int lm_34, .ref s8_1, .ref s9_1, .ref s10_1, .int z_106, .ref s11_1, .int nm_34, .ref s12_1, .ref s13_1, .ref s14_1, .int 0, .ref s15_1, .ref s16_1, .ref s17_1, .ref s18_1])))) := by rw [← va_pls hD9 hg0.1 hk_107 _]; exact hD
                                have hPI := hPI.put (e := .inr (3, [.ref s1_1, .ref s2_1, .ref s3_1, .ref s4_1, .ref s5_1, .ref s6_1, .ref s7_1, .int pa_34, .int lm_34, .ref s8_1, .ref s9_1, .ref s10_1, .int z_106, .ref s11_1, .int nm_34, .ref s12_1, .ref s13_1, .ref s14_1, .int 0, .ref s15_1, .ref s16_1, .ref s17_1, .ref s18_1])) hg0 ⟨s1_1, s2_1, s3_1, s4_1, s5_1, s6_1, s7_1, pa_34, lm_34, s8_1, s9_1, s10_1, z_106, s11_1, nm_34, s12_1, s13_1, s14_1, 0, s15_1, s16_1, s17_1, s18_1, rfl, fs1_1, fs2_1, fs3_1, fs4_1, fs5_1, fs6_1, fs7_1, flm_34, fs8_1, fs9_1, fs10_1, rg_108, fs11_1, fnm_34, fs12_1, fs13_1, fs14_1, (Or.inr rfl), fs15_1, fs16_1, fs17_1, fs18_1⟩
                                have es_f_109 : va_up f_91 g0 (.inr (3, [.ref s1_1, .ref s2_1, .ref s3_1, .ref s4_1, .ref s5_1, .ref s6_1, .ref s7_1, .int pa_34, .int lm_34, .ref s8_1, .ref s9_1, .ref s10_1, .int z_106, .ref s11_1, .int nm_34, .ref s12_1, .ref s13_1, .ref s14_1, .int 0, .ref s15_1, .ref s16_1, .ref s17_1, .ref s18_1])) g0 = .inr (3, [.ref s1_1, .ref s2_1, .ref s3_1, .ref s4_1, .ref s5_1, .ref s6_1, .ref s7_1, .int pa_34, .int lm_34, .ref s8_1, .ref s9_1, .ref s10_1, .int z_106, .ref s11_1, .int nm_34, .ref s12_1, .ref s13_1, .ref s14_1, .int 0, .ref s15_1, .ref s16_1, .ref s17_1, .ref s18_1]) := va_up_self _ _ _
                                have eq_110 := (va_up_ne f_91 (.inr (3, [.ref s1_1, .ref s2_1, .ref s3_1, .ref s4_1, .ref s5_1, .ref s6_1, .ref s7_1, .int pa_34, .int lm_34, .ref s8_1, .ref s9_1, .ref s10_1, .int z_106, .ref s11_1, .int nm_34, .ref s12_1, .ref s13_1, .ref s14_1, .int 0, .ref s15_1, .ref s16_1, .ref s17_1, .ref s18_1])) (isr_ne fs2_1 hg0 (by decide))).trans eq_93
                                have eq_111 := (va_up_ne f_91 (.inr (3, [.ref s1_1, .ref s2_1, .ref s3_1, .ref s4_1, .ref s5_1, .ref s6_1, .ref s7_1, .int pa_34, .int lm_34, .ref s8_1, .ref s9_1, .ref s10_1, .int z_106, .ref s11_1, .int nm_34, .ref s12_1, .ref s13_1, .ref s14_1, .int 0, .ref s15_1, .ref s16_1, .ref s17_1, .ref s18_1])) (isr_ne fs3_1 hg0 (by decide))).trans eq_94
                                have eq_112 := (va_up_ne f_91 (.inr (3, [.ref s1_1, .ref s2_1, .ref s3_1, .ref s4_1, .ref s5_1, .ref s6_1, .ref s7_1, .int pa_34, .int lm_34, .ref s8_1, .ref s9_1, .ref s10_1, .int z_106, .ref s11_1, .int nm_34, .ref s12_1, .ref s13_1, .ref s14_1, .int 0, .ref s15_1, .ref s16_1, .ref s17_1, .ref s18_1])) (isr_ne fs11_1 hg0 (by decide))).trans es_f_91
                                have hfr := fr_up (S := (sK [10, 21, 22, 23, 24])) (e := .inr (3, [.ref s1_1, .ref s2_1, .ref s3_1, .ref s4_1, .ref s5_1, .ref s6_1, .ref s7_1, .int pa_34, .int lm_34, .ref s8_1, .ref s9_1, .ref s10_1, .int z_106, .ref s11_1, .int nm_34, .ref s12_1, .ref s13_1, .ref s14_1, .int 0, .ref s15_1, .ref s16_1, .ref s17_1, .ref s18_1])) hfr hg0 (by decide)
                                have hXL := XL.up (e := .inr (3, [.ref s1_1, .ref s2_1, .ref s3_1, .ref s4_1, .ref s5_1, .ref s6_1, .ref s7_1, .int pa_34, .int lm_34, .ref s8_1, .ref s9_1, .ref s10_1, .int z_106, .ref s11_1, .int nm_34, .ref s12_1, .ref s13_1, .ref s14_1, .int 0, .ref s15_1, .ref s16_1, .ref s17_1, .ref s18_1])) hXL hg0 (by decide) (by decide)
                                have hKP := hKP.put eq_92 es_f_109 ⟨rfl, rfl⟩
                                generalize va_up f_91 g0 (.inr (3, [.ref s1_1, .ref s2_1, .ref s3_1, .ref s4_1, .ref s5_1, .ref s6_1, .ref s7_1, .int pa_34, .int lm_34, .ref s8_1, .ref s9_1, .ref s10_1, .int z_106, .ref s11_1, .int nm_34, .ref s12_1, .ref s13_1, .ref s14_1, .int 0, .ref s15_1, .ref s16_1, .ref s17_1, .ref s18_1])) = f_109 at hP hD hPI es_f_109 eq_110 eq_111 eq_112 hfr hXL hKP
                                obtain ⟨i_113, ei_113⟩ : ∃ y : Int32, y = i4 + 1 := ⟨_, rfl⟩
                                refine lv_iinc (v := i_113) (lv' := [(4, .int i_113), (5, .int z_48), (3, .int z_33), (2, .int i2), (0, .ref g0), (1, .int o0)]) hx hb dX3_find_188 hl (k := 1) rfl (by rw [ei_113]; rfl) (by decide) rfl (fun ls hl => ?_)
                                have ki_113 := inc_toInt ei_113 (by omega)
                                refine lv_goto (tgt := 50) hx hb dX3_find_191 (by decide) ?_
                                exact ih_50 i_113 f_109 _ _ _  (by omega) (by omega) ⟨hfr, ⟨hXL, hKP, (congrArg (vAt · 14) es_f_109).trans hnm_35⟩⟩ hPI hP hD hS (lv_sub hl [0, 2, 3, 4, 5] rfl)
                          · have c_57 := mt Int32.le_iff_toInt_le.mpr c_57
                            refine lv_iconst (v := 1) hx hb dX3_find_132 (by decide) ?_
                            refine lv_goto (tgt := 137) hx hb dX3_find_133 (by decide) ?_
                            obtain ⟨k_114, hk_114⟩ := va_plg hg0.1 e_34
                            have hD9 := hD
                            refine va_put (D := (dC, dI)) (ci := 3) (v := .int 1) (ty := .boolean) (C := RX3) (T := TX3) (N := 23) hx hb hts iX3_ tyX3 tyX3_ok nmX3 hown hK hP hD hS k_114 hk_114 rfl 18 (by decide) (hts (.fieldLink RX3 163 "FieldLeavesModel" "isRoom" "Z") (by decide +kernel)) (fun _ h9 => h9) rfl (by decide +kernel) rfl rfl (Nat.le_of_ble_eq_true rfl) dX3_find_137 (fun H locs hP hD hS => ?_)
                            have hP : va_P (dC, dI) vwCl (va_pl L (va_up fl50 g0 (.inr (3, [.ref s1_1, .ref s2_1, .ref s3_1, .ref s4_1, .ref s5_1, .ref s6_1, .ref s7_1, .int pa_34, .int lm_34, .ref s8_1, .ref s9_1, .ref s10_1, .int fm_34, .ref s11_1, .int nm_34, .ref s12_1, .ref s13_1, .ref s14_1, .int 1, .ref s15_1, .ref s16_1, .ref s17_1, .ref s18_1])))) H := by rw [← va_pls hD9 hg0.1 hk_114 _]; exact hP
                            have hD : va_D A (va_pl L (va_up fl50 g0 (.inr (3, [.ref s1_1, .ref s2_1, .ref s3_1, .ref s4_1, .ref s5_1, .ref s6_1, .ref s7_1, .int pa_34, .int lm_34, .ref s8_1, .ref s9_1, .ref s10_1, .int fm_34, .ref s11_1, .int nm_34, .ref s12_1, .ref s13_1, .ref s14_1, .int 1, .ref s15_1, .ref s16_1, .ref s17_1, .ref s18_1])))) := by rw [← va_pls hD9 hg0.1 hk_114 _]; exact hD
                            have hPI := hPI.put (e := .inr (3, [.ref s1_1, .ref s2_1, .ref s3_1, .ref s4_1, .ref s5_1, .ref s6_1, .ref s7_1, .int pa_34, .int lm_34, .ref s8_1, .ref s9_1, .ref s10_1, .int fm_34, .ref s11_1, .int nm_34, .ref s12_1, .ref s13_1, .ref s14_1, .int 1, .ref s15_1, .ref s16_1, .ref s17_1, .ref s18_1])) hg0 ⟨s1_1, s2_1, s3_1, s4_1, s5_1, s6_1, s7_1, pa_34, lm_34, s8_1, s9_1, s10_1, fm_34, s11_1, nm_34, s12_1, s13_1, s14_1, 1, s15_1, s16_1, s17_1, s18_1, rfl, fs1_1, fs2_1, fs3_1, fs4_1, fs5_1, fs6_1, fs7_1, flm_34, fs8_1, fs9_1, fs10_1, ffm_34, fs11_1, fnm_34, fs12_1, fs13_1, fs14_1, (Or.inl rfl), fs15_1, fs16_1, fs17_1, fs18_1⟩
                            have es_f_115 : va_up fl50 g0 (.inr (3, [.ref s1_1, .ref s2_1, .ref s3_1, .ref s4_1, .ref s5_1, .ref s6_1, .ref s7_1, .int pa_34, .int lm_34, .ref s8_1, .ref s9_1, .ref s10_1, .int fm_34, .ref s11_1, .int nm_34, .ref s12_1, .ref s13_1, .ref s14_1, .int 1, .ref s15_1, .ref s16_1, .ref s17_1, .ref s18_1])) g0 = .inr (3, [.ref s1_1, .ref s2_1, .ref s3_1, .ref s4_1, .ref s5_1, .ref s6_1, .ref s7_1, .int pa_34, .int lm_34, .ref s8_1, .ref s9_1, .ref s10_1, .int fm_34, .ref s11_1, .int nm_34, .ref s12_1, .ref s13_1, .ref s14_1, .int 1, .ref s15_1, .ref s16_1, .ref s17_1, .ref s18_1]) := va_up_self _ _ _
                            have eq_116 := (va_up_ne fl50 (.inr (3, [.ref s1_1, .ref s2_1, .ref s3_1, .ref s4_1, .ref s5_1, .ref s6_1, .ref s7_1, .int pa_34, .int lm_34, .ref s8_1, .ref s9_1, .ref s10_1, .int fm_34, .ref s11_1, .int nm_34, .ref s12_1, .ref s13_1, .ref s14_1, .int 1, .ref s15_1, .ref s16_1, .ref s17_1, .ref s18_1])) (isr_ne fs2_1 hg0 (by decide))).trans e_41
                            have eq_117 := (va_up_ne fl50 (.inr (3, [.ref s1_1, .ref s2_1, .ref s3_1, .ref s4_1, .ref s5_1, .ref s6_1, .ref s7_1, .int pa_34, .int lm_34, .ref s8_1, .ref s9_1, .ref s10_1, .int fm_34, .ref s11_1, .int nm_34, .ref s12_1, .ref s13_1, .ref s14_1, .int 1, .ref s15_1, .ref s16_1, .ref s17_1, .ref s18_1])) (isr_ne fs3_1 hg0 (by decide))).trans e_47
                            have hfr := fr_up (S := (sK [10, 21, 22, 23, 24])) (e := .inr (3, [.ref s1_1, .ref s2_1, .ref s3_1, .ref s4_1, .ref s5_1, .ref s6_1, .ref s7_1, .int pa_34, .int lm_34, .ref s8_1, .ref s9_1, .ref s10_1, .int fm_34, .ref s11_1, .int nm_34, .ref s12_1, .ref s13_1, .ref s14_1, .int 1, .ref s15_1, .ref s16_1, .ref s17_1, .ref s18_1])) hfr hg0 (by decide)
                            have hXL := XL.up (e := .inr (3, [.ref s1_1, .ref s2_1, .ref s3_1, .ref s4_1, .ref s5_1, .ref s6_1, .ref s7_1, .int pa_34, .int lm_34, .ref s8_1, .ref s9_1, .ref s10_1, .int fm_34, .ref s11_1, .int nm_34, .ref s12_1, .ref s13_1, .ref s14_1, .int 1, .ref s15_1, .ref s16_1, .ref s17_1, .ref s18_1])) hXL hg0 (by decide) (by decide)
                            have hKP := hKP.put e_34 es_f_115 ⟨rfl, rfl⟩
                            generalize va_up fl50 g0 (.inr (3, [.ref s1_1, .ref s2_1, .ref s3_1, .ref s4_1, .ref s5_1, .ref s6_1, .ref s7_1, .int pa_34, .int lm_34, .ref s8_1, .ref s9_1, .ref s10_1, .int fm_34, .ref s11_1, .int nm_34, .ref s12_1, .ref s13_1, .ref s14_1, .int 1, .ref s15_1, .ref s16_1, .ref s17_1, .ref s18_1])) = f_115 at hP hD hPI es_f_115 eq_116 eq_117 hfr hXL hKP
                            refine lv_aload_n hx hb dX3_find_140 rfl (lv_at hl 4 rfl) ?_
                            obtain ⟨k_118, hk_118⟩ := va_plg hg0.1 es_f_115
                            refine va_get (D := (dC, dI)) (ci := 3) (v := .ref s11_1) (C := RX3) (T := TX3) (N := 23) hx hb hts iX3_ hown hK hP k_118 hk_118 rfl 13 (by decide) (hts (.fieldLink RX3 44 "FieldLeavesModel" "found" "[I") (by decide +kernel)) (fun _ h9 => h9) rfl dX3_find_141 ?_
                            refine lv_aload_n hx hb dX3_find_144 rfl (lv_at hl 4 rfl) ?_
                            obtain ⟨k_119, hk_119⟩ := va_plg hg0.1 es_f_115
                            refine va_get (D := (dC, dI)) (ci := 3) (v := .int fm_34) (C := RX3) (T := TX3) (N := 23) hx hb hts iX3_ hown hK hP k_119 hk_119 rfl 12 (by decide) (hts (.fieldLink RX3 167 "FieldLeavesModel" "foundMany" "I") (by decide +kernel)) (fun _ h9 => h9) rfl dX3_find_145 ?_
                            refine lv_bipush (v := 24) hx hb dX3_find_148 (by decide) ?_
                            refine lv_icmp_ge (tgt := 160) hx hb dX3_find_150 (by decide) (fun c_120 => ?_) (fun c_120 => ?_)
                            · have c_120 := Int32.le_iff_toInt_le.mp c_120
                              refine lv_bipush (v := 24) hx hb dX3_find_160 (by decide) ?_
                              refine lv_iload hx hb dX3_find_162 (lv_at hl 0 rfl) ?_
                              obtain ⟨g_121, e_121, fg_121⟩ := hPI.a21 fs11_1
                              obtain ⟨k_121, hk_121⟩ := va_plg fs11_1.1 e_121
                              have h_121 : vp_in 24 25 := (vp_in_iff.mpr (by decide))
                              have fw_121 := updS (P := fun v => 0 ≤ v.toInt ∧ v.toInt < 6400) (k := Int32.toNatClampNeg 24) (v := z_48) fg_121 (by omega)
                              have hD9 := hD
                              refine va_iast hx hb hK hP hD hS k_121 0 hk_121 rfl h_121 dX3_find_164 (fun H locs hP hD hS => ?_)
                              have hP : va_P (dC, dI) vwCl (va_pl L (va_up f_115 s11_1 (.inl (kI, 25, .inl (upd g_121 (Int32.toNatClampNeg 24) z_48))))) H := by rw [← va_pls hD9 fs11_1.1 hk_121 _]; exact hP
                              have hD : va_D A (va_pl L (va_up f_115 s11_1 (.inl (kI, 25, .inl (upd g_121 (Int32.toNatClampNeg 24) z_48))))) := by rw [← va_pls hD9 fs11_1.1 hk_121 _]; exact hD
                              have hPI := hPI.put (e := .inl (kI, 25, .inl (upd g_121 (Int32.toNatClampNeg 24) z_48))) fs11_1 ⟨_, rfl, fw_121⟩
                              have es_f_122 : va_up f_115 s11_1 (.inl (kI, 25, .inl (upd g_121 (Int32.toNatClampNeg 24) z_48))) s11_1 = .inl (kI, 25, .inl (upd g_121 (Int32.toNatClampNeg 24) z_48)) := va_up_self _ _ _
                              have eq_123 := (va_up_ne f_115 (.inl (kI, 25, .inl (upd g_121 (Int32.toNatClampNeg 24) z_48))) (isr_ne hg0 fs11_1 (by decide))).trans es_f_115
                              have eq_124 := (va_up_ne f_115 (.inl (kI, 25, .inl (upd g_121 (Int32.toNatClampNeg 24) z_48))) (isr_ne fs2_1 fs11_1 (by decide))).trans eq_116
                              have eq_125 := (va_up_ne f_115 (.inl (kI, 25, .inl (upd g_121 (Int32.toNatClampNeg 24) z_48))) (isr_ne fs3_1 fs11_1 (by decide))).trans eq_117
                              have hfr := fr_up (S := (sK [10, 21, 22, 23, 24])) (e := .inl (kI, 25, .inl (upd g_121 (Int32.toNatClampNeg 24) z_48))) hfr fs11_1 (by decide)
                              have hXL := XL.up (e := .inl (kI, 25, .inl (upd g_121 (Int32.toNatClampNeg 24) z_48))) hXL fs11_1 (by decide) (by decide)
                              have hKP := hKP.same (va_up_ne f_115 (.inl (kI, 25, .inl (upd g_121 (Int32.toNatClampNeg 24) z_48))) (isr_ne hg0 fs11_1 (by decide)))
                              generalize va_up f_115 s11_1 (.inl (kI, 25, .inl (upd g_121 (Int32.toNatClampNeg 24) z_48))) = f_122 at hP hD hPI es_f_122 eq_123 eq_124 eq_125 hfr hXL hKP
                              refine lv_aload_n hx hb dX3_find_165 rfl (lv_at hl 4 rfl) ?_
                              refine lv_dup hx hb dX3_find_166 rfl ?_
                              obtain ⟨k_126, hk_126⟩ := va_plg hg0.1 eq_123
                              refine va_get (D := (dC, dI)) (ci := 3) (v := .int fm_34) (C := RX3) (T := TX3) (N := 23) hx hb hts iX3_ hown hK hP k_126 hk_126 rfl 12 (by decide) (hts (.fieldLink RX3 167 "FieldLeavesModel" "foundMany" "I") (by decide +kernel)) (fun _ h9 => h9) rfl dX3_find_167 ?_
                              refine lv_aload_n hx hb dX3_find_170 rfl (lv_at hl 4 rfl) ?_
                              obtain ⟨k_127, hk_127⟩ := va_plg hg0.1 eq_123
                              refine va_get (D := (dC, dI)) (ci := 3) (v := .int fm_34) (C := RX3) (T := TX3) (N := 23) hx hb hts iX3_ hown hK hP k_127 hk_127 rfl 12 (by decide) (hts (.fieldLink RX3 167 "FieldLeavesModel" "foundMany" "I") (by decide +kernel)) (fun _ h9 => h9) rfl dX3_find_171 ?_
                              refine lv_bipush (v := 24) hx hb dX3_find_174 (by decide) ?_
                              refine lv_icmp_ge (tgt := 183) hx hb dX3_find_176 (by decide) (fun c_128 => ?_) (fun c_128 => ?_)
                              · have c_128 := Int32.le_iff_toInt_le.mp c_128
                                refine lv_iconst (v := 0) hx hb dX3_find_183 (by decide) ?_
                                refine lv_iadd hx hb dX3_find_184 ?_
                                refine lv_topi (fun z_129 ez_129 => ?_)
                                have kz_129 := add_toInt ez_129 (by omega) (by omega)
                                obtain ⟨k_130, hk_130⟩ := va_plg hg0.1 eq_123
                                have hD9 := hD
                                have rg_131 : 0 ≤ Int32.toInt z_129 ∧ Int32.toInt z_129 ≤ 24 := by constructor <;> omega
                                refine va_put (D := (dC, dI)) (ci := 3) (v := .int z_129) (ty := .int) (C := RX3) (T := TX3) (N := 23) hx hb hts iX3_ tyX3 tyX3_ok nmX3 hown hK hP hD hS k_130 hk_130 rfl 12 (by decide) (hts (.fieldLink RX3 167 "FieldLeavesModel" "foundMany" "I") (by decide +kernel)) (fun _ h9 => h9) rfl (by decide +kernel) rfl rfl (Nat.le_of_ble_eq_true rfl) dX3_find_185 (fun H locs hP hD hS => ?_)
                                have hP : va_P (dC, dI) vwCl (va_pl L (va_up f_122 g0 (.inr (3, [.ref s1_1, .ref s2_1, .ref s3_1, .ref s4_1, .ref s5_1, .ref s6_1, .ref s7_1, .int pa_34, .int lm_34, .ref s8_1, .ref s9_1, .ref s10_1, .int z_129, .ref s11_1, .int nm_34, .ref s12_1, .ref s13_1, .ref s14_1, .int 1, .ref s15_1, .ref s16_1, .ref s17_1, .ref s18_1])))) H := by rw [← va_pls hD9 hg0.1 hk_130 _]; exact hP
                                have hD : va_D A (va_pl L (va_up f_122 g0 (.inr (3, [.ref s1_1, .ref s2_1, .ref s3_1, .ref s4_1, .ref s5_1, .ref s6_1, .ref s7_1, .int pa_34, .int lm_34, .ref s8_1, .ref s9_1, .ref s10_1, .int z_129, .ref s11_1, .int nm_34, .ref s12_1, .ref s13_1, .ref s14_1, .int 1, .ref s15_1, .ref s16_1, .ref s17_1, .ref s18_1])))) := by rw [← va_pls hD9 hg0.1 hk_130 _]; exact hD
                                have hPI := hPI.put (e := .inr (3, [.ref s1_1, .ref s2_1, .ref s3_1, .ref s4_1, .ref s5_1, .ref s6_1, .ref s7_1, .int pa_34, .int lm_34, .ref s8_1, .ref s9_1, .ref s10_1, .int z_129, .ref s11_1, .int nm_34, .ref s12_1, .ref s13_1, .ref s14_1, .int 1, .ref s15_1, .ref s16_1, .ref s17_1, .ref s18_1])) hg0 ⟨s1_1, s2_1, s3_1, s4_1, s5_1, s6_1, s7_1, pa_34, lm_34, s8_1, s9_1, s10_1, z_129, s11_1, nm_34, s12_1, s13_1, s14_1, 1, s15_1, s16_1, s17_1, s18_1, rfl, fs1_1, fs2_1, fs3_1, fs4_1, fs5_1, fs6_1, fs7_1, flm_34, fs8_1, fs9_1, fs10_1, rg_131, fs11_1, fnm_34, fs12_1, fs13_1, fs14_1, (Or.inl rfl), fs15_1, fs16_1, fs17_1, fs18_1⟩
                                have es_f_132 : va_up f_122 g0 (.inr (3, [.ref s1_1, .ref s2_1, .ref s3_1, .ref s4_1, .ref s5_1, .ref s6_1, .ref s7_1, .int pa_34, .int lm_34, .ref s8_1, .ref s9_1, .ref s10_1, .int z_129, .ref s11_1, .int nm_34, .ref s12_1, .ref s13_1, .ref s14_1, .int 1, .ref s15_1, .ref s16_1, .ref s17_1, .ref s18_1])) g0 = .inr (3, [.ref s1_1, .ref s2_1, .ref s3_1, .ref s4_1, .ref s5_1, .ref s6_1, .ref s7_1, .int pa_34, .int lm_34, .ref s8_1, .ref s9_1, .ref s10_1, .int z_129, .ref s11_1, .int nm_34, .ref s12_1, .ref s13_1, .ref s14_1, .int 1, .ref s15_1, .ref s16_1, .ref s17_1, .ref s18_1]) := va_up_self _ _ _
                                have eq_133 := (va_up_ne f_122 (.inr (3, [.ref s1_1, .ref s2_1, .ref s3_1, .ref s4_1, .ref s5_1, .ref s6_1, .ref s7_1, .int pa_34, .int lm_34, .ref s8_1, .ref s9_1, .ref s10_1, .int z_129, .ref s11_1, .int nm_34, .ref s12_1, .ref s13_1, .ref s14_1, .int 1, .ref s15_1, .ref s16_1, .ref s17_1, .ref s18_1])) (isr_ne fs2_1 hg0 (by decide))).trans eq_124
                                have eq_134 := (va_up_ne f_122 (.inr (3, [.ref s1_1, .ref s2_1, .ref s3_1, .ref s4_1, .ref s5_1, .ref s6_1, .ref s7_1, .int pa_34, .int lm_34, .ref s8_1, .ref s9_1, .ref s10_1, .int z_129, .ref s11_1, .int nm_34, .ref s12_1, .ref s13_1, .ref s14_1, .int 1, .ref s15_1, .ref s16_1, .ref s17_1, .ref s18_1])) (isr_ne fs3_1 hg0 (by decide))).trans eq_125
                                have eq_135 := (va_up_ne f_122 (.inr (3, [.ref s1_1, .ref s2_1, .ref s3_1, .ref s4_1, .ref s5_1, .ref s6_1, .ref s7_1, .int pa_34, .int lm_34, .ref s8_1, .ref s9_1, .ref s10_1, .int z_129, .ref s11_1, .int nm_34, .ref s12_1, .ref s13_1, .ref s14_1, .int 1, .ref s15_1, .ref s16_1, .ref s17_1, .ref s18_1])) (isr_ne fs11_1 hg0 (by decide))).trans es_f_122
                                have hfr := fr_up (S := (sK [10, 21, 22, 23, 24])) (e := .inr (3, [.ref s1_1, .ref s2_1, .ref s3_1, .ref s4_1, .ref s5_1, .ref s6_1, .ref s7_1, .int pa_34, .int lm_34, .ref s8_1, .ref s9_1, .ref s10_1, .int z_129, .ref s11_1, .int nm_34, .ref s12_1, .ref s13_1, .ref s14_1, .int 1, .ref s15_1, .ref s16_1, .ref s17_1, .ref s18_1])) hfr hg0 (by decide)
                                have hXL := XL.up (e := .inr (3, [.ref s1_1, .ref s2_1, .ref s3_1, .ref s4_1, .ref s5_1, .ref s6_1, .ref s7_1, .int pa_34, .int lm_34, .ref s8_1, .ref s9_1, .ref s10_1, .int z_129, .ref s11_1, .int nm_34, .ref s12_1, .ref s13_1, .ref s14_1, .int 1, .ref s15_1, .ref s16_1, .ref s17_1, .ref s18_1])) hXL hg0 (by decide) (by decide)
                                have hKP := hKP.put eq_123 es_f_132 ⟨rfl, rfl⟩
                                generalize va_up f_122 g0 (.inr (3, [.ref s1_1, .ref s2_1, .ref s3_1, .ref s4_1, .ref s5_1, .ref s6_1, .ref s7_1, .int pa_34, .int lm_34, .ref s8_1, .ref s9_1, .ref s10_1, .int z_129, .ref s11_1, .int nm_34, .ref s12_1, .ref s13_1, .ref s14_1, .int 1, .ref s15_1, .ref s16_1, .ref s17_1, .ref s18_1])) = f_132 at hP hD hPI es_f_132 eq_133 eq_134 eq_135 hfr hXL hKP
                                obtain ⟨i_136, ei_136⟩ : ∃ y : Int32, y = i4 + 1 := ⟨_, rfl⟩
                                refine lv_iinc (v := i_136) (lv' := [(4, .int i_136), (5, .int z_48), (3, .int z_33), (2, .int i2), (0, .ref g0), (1, .int o0)]) hx hb dX3_find_188 hl (k := 1) rfl (by rw [ei_136]; rfl) (by decide) rfl (fun ls hl => ?_)
                                have ki_136 := inc_toInt ei_136 (by omega)
                                refine lv_goto (tgt := 50) hx hb dX3_find_191 (by decide) ?_
                                exact ih_50 i_136 f_132 _ _ _  (by omega) (by omega) ⟨hfr, ⟨hXL, hKP, (congrArg (vAt · 14) es_f_132).trans hnm_35⟩⟩ hPI hP hD hS (lv_sub hl [0, 2, 3, 4, 5] rfl)
                              · have c_128 := mt Int32.le_iff_toInt_le.mpr c_128
                                refine lv_iconst (v := 1) hx hb dX3_find_179 (by decide) ?_
                                refine lv_goto (tgt := 184) hx hb dX3_find_180 (by decide) ?_
                                refine lv_iadd hx hb dX3_find_184 ?_
                                refine lv_topi (fun z_137 ez_137 => ?_)
                                have kz_137 := add_toInt ez_137 (by omega) (by omega)
                                obtain ⟨k_138, hk_138⟩ := va_plg hg0.1 eq_123
                                have hD9 := hD
                                have rg_139 : 0 ≤ Int32.toInt z_137 ∧ Int32.toInt z_137 ≤ 24 := by constructor <;> omega
                                refine va_put (D := (dC, dI)) (ci := 3) (v := .int z_137) (ty := .int) (C := RX3) (T := TX3) (N := 23) hx hb hts iX3_ tyX3 tyX3_ok nmX3 hown hK hP hD hS k_138 hk_138 rfl 12 (by decide) (hts (.fieldLink RX3 167 "FieldLeavesModel" "foundMany" "I") (by decide +kernel)) (fun _ h9 => h9) rfl (by decide +kernel) rfl rfl (Nat.le_of_ble_eq_true rfl) dX3_find_185 (fun H locs hP hD hS => ?_)
                                have hP : va_P (dC, dI) vwCl (va_pl L (va_up f_122 g0 (.inr (3, [.ref s1_1, .ref s2_1, .ref s3_1, .ref s4_1, .ref s5_1, .ref s6_1, .ref s7_1, .int pa_34, .int lm_34, .ref s8_1, .ref s9_1, .ref s10_1, .int z_137, .ref s11_1, .int nm_34, .ref s12_1, .ref s13_1, .ref s14_1, .int 1, .ref s15_1, .ref s16_1, .ref s17_1, .ref s18_1])))) H := by rw [← va_pls hD9 hg0.1 hk_138 _]; exact hP
                                have hD : va_D A (va_pl L (va_up f_122 g0 (.inr (3, [.ref s1_1, .ref s2_1, .ref s3_1, .ref s4_1, .ref s5_1, .ref s6_1, .ref s7_1, .int pa_34, .int lm_34, .ref s8_1, .ref s9_1, .ref s10_1, .int z_137, .ref s11_1, .int nm_34, .ref s12_1, .ref s13_1, .ref s14_1, .int 1, .ref s15_1, .ref s16_1, .ref s17_1, .ref s18_1])))) := by rw [← va_pls hD9 hg0.1 hk_138 _]; exact hD
                                have hPI := hPI.put (e := .inr (3, [.ref s1_1, .ref s2_1, .ref s3_1, .ref s4_1, .ref s5_1, .ref s6_1, .ref s7_1, .int pa_34, .int lm_34, .ref s8_1, .ref s9_1, .ref s10_1, .int z_137, .ref s11_1, .int nm_34, .ref s12_1, .ref s13_1, .ref s14_1, .int 1, .ref s15_1, .ref s16_1, .ref s17_1, .ref s18_1])) hg0 ⟨s1_1, s2_1, s3_1, s4_1, s5_1, s6_1, s7_1, pa_34, lm_34, s8_1, s9_1, s10_1, z_137, s11_1, nm_34, s12_1, s13_1, s14_1, 1, s15_1, s16_1, s17_1, s18_1, rfl, fs1_1, fs2_1, fs3_1, fs4_1, fs5_1, fs6_1, fs7_1, flm_34, fs8_1, fs9_1, fs10_1, rg_139, fs11_1, fnm_34, fs12_1, fs13_1, fs14_1, (Or.inl rfl), fs15_1, fs16_1, fs17_1, fs18_1⟩
                                have es_f_140 : va_up f_122 g0 (.inr (3, [.ref s1_1, .ref s2_1, .ref s3_1, .ref s4_1, .ref s5_1, .ref s6_1, .ref s7_1, .int pa_34, .int lm_34, .ref s8_1, .ref s9_1, .ref s10_1, .int z_137, .ref s11_1, .int nm_34, .ref s12_1, .ref s13_1, .ref s14_1, .int 1, .ref s15_1, .ref s16_1, .ref s17_1, .ref s18_1])) g0 = .inr (3, [.ref s1_1, .ref s2_1, .ref s3_1, .ref s4_1, .ref s5_1, .ref s6_1, .ref s7_1, .int pa_34, .int lm_34, .ref s8_1, .ref s9_1, .ref s10_1, .int z_137, .ref s11_1, .int nm_34, .ref s12_1, .ref s13_1, .ref s14_1, .int 1, .ref s15_1, .ref s16_1, .ref s17_1, .ref s18_1]) := va_up_self _ _ _
                                have eq_141 := (va_up_ne f_122 (.inr (3, [.ref s1_1, .ref s2_1, .ref s3_1, .ref s4_1, .ref s5_1, .ref s6_1, .ref s7_1, .int pa_34, .int lm_34, .ref s8_1, .ref s9_1, .ref s10_1, .int z_137, .ref s11_1, .int nm_34, .ref s12_1, .ref s13_1, .ref s14_1, .int 1, .ref s15_1, .ref s16_1, .ref s17_1, .ref s18_1])) (isr_ne fs2_1 hg0 (by decide))).trans eq_124
                                have eq_142 := (va_up_ne f_122 (.inr (3, [.ref s1_1, .ref s2_1, .ref s3_1, .ref s4_1, .ref s5_1, .ref s6_1, .ref s7_1, .int pa_34, .int lm_34, .ref s8_1, .ref s9_1, .ref s10_1, .int z_137, .ref s11_1, .int nm_34, .ref s12_1, .ref s13_1, .ref s14_1, .int 1, .ref s15_1, .ref s16_1, .ref s17_1, .ref s18_1])) (isr_ne fs3_1 hg0 (by decide))).trans eq_125
                                have eq_143 := (va_up_ne f_122 (.inr (3, [.ref s1_1, .ref s2_1, .ref s3_1, .ref s4_1, .ref s5_1, .ref s6_1, .ref s7_1, .int pa_34, .int lm_34, .ref s8_1, .ref s9_1, .ref s10_1, .int z_137, .ref s11_1, .int nm_34, .ref s12_1, .ref s13_1, .ref s14_1, .int 1, .ref s15_1, .ref s16_1, .ref s17_1, .ref s18_1])) (isr_ne fs11_1 hg0 (by decide))).trans es_f_122
                                have hfr := fr_up (S := (sK [10, 21, 22, 23, 24])) (e := .inr (3, [.ref s1_1, .ref s2_1, .ref s3_1, .ref s4_1, .ref s5_1, .ref s6_1, .ref s7_1, .int pa_34, .int lm_34, .ref s8_1, .ref s9_1, .ref s10_1, .int z_137, .ref s11_1, .int nm_34, .ref s12_1, .ref s13_1, .ref s14_1, .int 1, .ref s15_1, .ref s16_1, .ref s17_1, .ref s18_1])) hfr hg0 (by decide)
                                have hXL := XL.up (e := .inr (3, [.ref s1_1, .ref s2_1, .ref s3_1, .ref s4_1, .ref s5_1, .ref s6_1, .ref s7_1, .int pa_34, .int lm_34, .ref s8_1, .ref s9_1, .ref s10_1, .int z_137, .ref s11_1, .int nm_34, .ref s12_1, .ref s13_1, .ref s14_1, .int 1, .ref s15_1, .ref s16_1, .ref s17_1, .ref s18_1])) hXL hg0 (by decide) (by decide)
                                have hKP := hKP.put eq_123 es_f_140 ⟨rfl, rfl⟩
                                generalize va_up f_122 g0 (.inr (3, [.ref s1_1, .ref s2_1, .ref s3_1, .ref s4_1, .ref s5_1, .ref s6_1, .ref s7_1, .int pa_34, .int lm_34, .ref s8_1, .ref s9_1, .ref s10_1, .int z_137, .ref s11_1, .int nm_34, .ref s12_1, .ref s13_1, .ref s14_1, .int 1, .ref s15_1, .ref s16_1, .ref s17_1, .ref s18_1])) = f_140 at hP hD hPI es_f_140 eq_141 eq_142 eq_143 hfr hXL hKP
                                obtain ⟨i_144, ei_144⟩ : ∃ y : Int32, y = i4 + 1 := ⟨_, rfl⟩
                                refine lv_iinc (v := i_144) (lv' := [(4, .int i_144), (5, .int z_48), (3, .int z_33), (2, .int i2), (0, .ref g0), (1, .int o0)]) hx hb dX3_find_188 hl (k := 1) rfl (by rw [ei_144]; rfl) (by decide) rfl (fun ls hl => ?_)
                                have ki_144 := inc_toInt ei_144 (by omega)
                                refine lv_goto (tgt := 50) hx hb dX3_find_191 (by decide) ?_
                                exact ih_50 i_144 f_140 _ _ _  (by omega) (by omega) ⟨hfr, ⟨hXL, hKP, (congrArg (vAt · 14) es_f_140).trans hnm_35⟩⟩ hPI hP hD hS (lv_sub hl [0, 2, 3, 4, 5] rfl)
                            · have c_120 := mt Int32.le_iff_toInt_le.mpr c_120
                              refine lv_aload_n hx hb dX3_find_153 rfl (lv_at hl 4 rfl) ?_
                              obtain ⟨k_145, hk_145⟩ := va_plg hg0.1 es_f_115
                              refine va_get (D := (dC, dI)) (ci := 3) (v := .int fm_34) (C := RX3) (T := TX3) (N := 23) hx hb hts iX3_ hown hK hP k_145 hk_145 rfl 12 (by decide) (hts (.fieldLink RX3 167 "FieldLeavesModel" "foundMany" "I") (by decide +kernel)) (fun _ h9 => h9) rfl dX3_find_154 ?_
                              refine lv_goto (tgt := 162) hx hb dX3_find_157 (by decide) ?_
                              refine lv_iload hx hb dX3_find_162 (lv_at hl 0 rfl) ?_
                              obtain ⟨g_146, e_146, fg_146⟩ := hPI.a21 fs11_1
                              obtain ⟨k_146, hk_146⟩ := va_plg fs11_1.1 e_146
                              have h_146 : vp_in fm_34 25 := (vp_in_iff.mpr (by constructor <;> omega))
                              have fw_146 := updS (P := fun v => 0 ≤ v.toInt ∧ v.toInt < 6400) (k := Int32.toNatClampNeg fm_34) (v := z_48) fg_146 (by omega)
                              have hD9 := hD
                              refine va_iast hx hb hK hP hD hS k_146 0 hk_146 rfl h_146 dX3_find_164 (fun H locs hP hD hS => ?_)
                              have hP : va_P (dC, dI) vwCl (va_pl L (va_up f_115 s11_1 (.inl (kI, 25, .inl (upd g_146 (Int32.toNatClampNeg fm_34) z_48))))) H := by rw [← va_pls hD9 fs11_1.1 hk_146 _]; exact hP
                              have hD : va_D A (va_pl L (va_up f_115 s11_1 (.inl (kI, 25, .inl (upd g_146 (Int32.toNatClampNeg fm_34) z_48))))) := by rw [← va_pls hD9 fs11_1.1 hk_146 _]; exact hD
                              have hPI := hPI.put (e := .inl (kI, 25, .inl (upd g_146 (Int32.toNatClampNeg fm_34) z_48))) fs11_1 ⟨_, rfl, fw_146⟩
                              have es_f_147 : va_up f_115 s11_1 (.inl (kI, 25, .inl (upd g_146 (Int32.toNatClampNeg fm_34) z_48))) s11_1 = .inl (kI, 25, .inl (upd g_146 (Int32.toNatClampNeg fm_34) z_48)) := va_up_self _ _ _
                              have eq_148 := (va_up_ne f_115 (.inl (kI, 25, .inl (upd g_146 (Int32.toNatClampNeg fm_34) z_48))) (isr_ne hg0 fs11_1 (by decide))).trans es_f_115
                              have eq_149 := (va_up_ne f_115 (.inl (kI, 25, .inl (upd g_146 (Int32.toNatClampNeg fm_34) z_48))) (isr_ne fs2_1 fs11_1 (by decide))).trans eq_116
                              have eq_150 := (va_up_ne f_115 (.inl (kI, 25, .inl (upd g_146 (Int32.toNatClampNeg fm_34) z_48))) (isr_ne fs3_1 fs11_1 (by decide))).trans eq_117
                              have hfr := fr_up (S := (sK [10, 21, 22, 23, 24])) (e := .inl (kI, 25, .inl (upd g_146 (Int32.toNatClampNeg fm_34) z_48))) hfr fs11_1 (by decide)
                              have hXL := XL.up (e := .inl (kI, 25, .inl (upd g_146 (Int32.toNatClampNeg fm_34) z_48))) hXL fs11_1 (by decide) (by decide)
                              have hKP := hKP.same (va_up_ne f_115 (.inl (kI, 25, .inl (upd g_146 (Int32.toNatClampNeg fm_34) z_48))) (isr_ne hg0 fs11_1 (by decide)))
                              generalize va_up f_115 s11_1 (.inl (kI, 25, .inl (upd g_146 (Int32.toNatClampNeg fm_34) z_48))) = f_147 at hP hD hPI es_f_147 eq_148 eq_149 eq_150 hfr hXL hKP
                              refine lv_aload_n hx hb dX3_find_165 rfl (lv_at hl 4 rfl) ?_
                              refine lv_dup hx hb dX3_find_166 rfl ?_
                              obtain ⟨k_151, hk_151⟩ := va_plg hg0.1 eq_148
                              refine va_get (D := (dC, dI)) (ci := 3) (v := .int fm_34) (C := RX3) (T := TX3) (N := 23) hx hb hts iX3_ hown hK hP k_151 hk_151 rfl 12 (by decide) (hts (.fieldLink RX3 167 "FieldLeavesModel" "foundMany" "I") (by decide +kernel)) (fun _ h9 => h9) rfl dX3_find_167 ?_
                              refine lv_aload_n hx hb dX3_find_170 rfl (lv_at hl 4 rfl) ?_
                              obtain ⟨k_152, hk_152⟩ := va_plg hg0.1 eq_148
                              refine va_get (D := (dC, dI)) (ci := 3) (v := .int fm_34) (C := RX3) (T := TX3) (N := 23) hx hb hts iX3_ hown hK hP k_152 hk_152 rfl 12 (by decide) (hts (.fieldLink RX3 167 "FieldLeavesModel" "foundMany" "I") (by decide +kernel)) (fun _ h9 => h9) rfl dX3_find_171 ?_
                              refine lv_bipush (v := 24) hx hb dX3_find_174 (by decide) ?_
                              refine lv_icmp_ge (tgt := 183) hx hb dX3_find_176 (by decide) (fun c_153 => ?_) (fun c_153 => ?_)
                              · have c_153 := Int32.le_iff_toInt_le.mp c_153
                                refine lv_iconst (v := 0) hx hb dX3_find_183 (by decide) ?_
                                refine lv_iadd hx hb dX3_find_184 ?_
                                refine lv_topi (fun z_154 ez_154 => ?_)
                                have kz_154 := add_toInt ez_154 (by omega) (by omega)
                                obtain ⟨k_155, hk_155⟩ := va_plg hg0.1 eq_148
                                have hD9 := hD
                                have rg_156 : 0 ≤ Int32.toInt z_154 ∧ Int32.toInt z_154 ≤ 24 := by constructor <;> omega
                                refine va_put (D := (dC, dI)) (ci := 3) (v := .int z_154) (ty := .int) (C := RX3) (T := TX3) (N := 23) hx hb hts iX3_ tyX3 tyX3_ok nmX3 hown hK hP hD hS k_155 hk_155 rfl 12 (by decide) (hts (.fieldLink RX3 167 "FieldLeavesModel" "foundMany" "I") (by decide +kernel)) (fun _ h9 => h9) rfl (by decide +kernel) rfl rfl (Nat.le_of_ble_eq_true rfl) dX3_find_185 (fun H locs hP hD hS => ?_)
                                have hP : va_P (dC, dI) vwCl (va_pl L (va_up f_147 g0 (.inr (3, [.ref s1_1, .ref s2_1, .ref s3_1, .ref s4_1, .ref s5_1, .ref s6_1, .ref s7_1, .int pa_34, .int lm_34, .ref s8_1, .ref s9_1, .ref s10_1, .int z_154, .ref s11_1, .int nm_34, .ref s12_1, .ref s13_1, .ref s14_1, .int 1, .ref s15_1, .ref s16_1, .ref s17_1, .ref s18_1])))) H := by rw [← va_pls hD9 hg0.1 hk_155 _]; exact hP
                                have hD : va_D A (va_pl L (va_up f_147 g0 (.inr (3, [.ref s1_1, .ref s2_1, .ref s3_1, .ref s4_1, .ref s5_1, .ref s6_1, .ref s7_1, .int pa_34, .int lm_34, .ref s8_1, .ref s9_1, .ref s10_1, .int z_154, .ref s11_1, .int nm_34, .ref s12_1, .ref s13_1, .ref s14_1, .int 1, .ref s15_1, .ref s16_1, .ref s17_1, .ref s18_1])))) := by rw [← va_pls hD9 hg0.1 hk_155 _]; exact hD
                                have hPI := hPI.put (e := .inr (3, [.ref s1_1, .ref s2_1, .ref s3_1, .ref s4_1, .ref s5_1, .ref s6_1, .ref s7_1, .int pa_34, .int lm_34, .ref s8_1, .ref s9_1, .ref s10_1, .int z_154, .ref s11_1, .int nm_34, .ref s12_1, .ref s13_1, .ref s14_1, .int 1, .ref s15_1, .ref s16_1, .ref s17_1, .ref s18_1])) hg0 ⟨s1_1, s2_1, s3_1, s4_1, s5_1, s6_1, s7_1, pa_34, lm_34, s8_1, s9_1, s10_1, z_154, s11_1, nm_34, s12_1, s13_1, s14_1, 1, s15_1, s16_1, s17_1, s18_1, rfl, fs1_1, fs2_1, fs3_1, fs4_1, fs5_1, fs6_1, fs7_1, flm_34, fs8_1, fs9_1, fs10_1, rg_156, fs11_1, fnm_34, fs12_1, fs13_1, fs14_1, (Or.inl rfl), fs15_1, fs16_1, fs17_1, fs18_1⟩
                                have es_f_157 : va_up f_147 g0 (.inr (3, [.ref s1_1, .ref s2_1, .ref s3_1, .ref s4_1, .ref s5_1, .ref s6_1, .ref s7_1, .int pa_34, .int lm_34, .ref s8_1, .ref s9_1, .ref s10_1, .int z_154, .ref s11_1, .int nm_34, .ref s12_1, .ref s13_1, .ref s14_1, .int 1, .ref s15_1, .ref s16_1, .ref s17_1, .ref s18_1])) g0 = .inr (3, [.ref s1_1, .ref s2_1, .ref s3_1, .ref s4_1, .ref s5_1, .ref s6_1, .ref s7_1, .int pa_34, .int lm_34, .ref s8_1, .ref s9_1, .ref s10_1, .int z_154, .ref s11_1, .int nm_34, .ref s12_1, .ref s13_1, .ref s14_1, .int 1, .ref s15_1, .ref s16_1, .ref s17_1, .ref s18_1]) := va_up_self _ _ _
                                have eq_158 := (va_up_ne f_147 (.inr (3, [.ref s1_1, .ref s2_1, .ref s3_1, .ref s4_1, .ref s5_1, .ref s6_1, .ref s7_1, .int pa_34, .int lm_34, .ref s8_1, .ref s9_1, .ref s10_1, .int z_154, .ref s11_1, .int nm_34, .ref s12_1, .ref s13_1, .ref s14_1, .int 1, .ref s15_1, .ref s16_1, .ref s17_1, .ref s18_1])) (isr_ne fs2_1 hg0 (by decide))).trans eq_149
                                have eq_159 := (va_up_ne f_147 (.inr (3, [.ref s1_1, .ref s2_1, .ref s3_1, .ref s4_1, .ref s5_1, .ref s6_1, .ref s7_1, .int pa_34, .int lm_34, .ref s8_1, .ref s9_1, .ref s10_1, .int z_154, .ref s11_1, .int nm_34, .ref s12_1, .ref s13_1, .ref s14_1, .int 1, .ref s15_1, .ref s16_1, .ref s17_1, .ref s18_1])) (isr_ne fs3_1 hg0 (by decide))).trans eq_150
                                have eq_160 := (va_up_ne f_147 (.inr (3, [.ref s1_1, .ref s2_1, .ref s3_1, .ref s4_1, .ref s5_1, .ref s6_1, .ref s7_1, .int pa_34, .int lm_34, .ref s8_1, .ref s9_1, .ref s10_1, .int z_154, .ref s11_1, .int nm_34, .ref s12_1, .ref s13_1, .ref s14_1, .int 1, .ref s15_1, .ref s16_1, .ref s17_1, .ref s18_1])) (isr_ne fs11_1 hg0 (by decide))).trans es_f_147
                                have hfr := fr_up (S := (sK [10, 21, 22, 23, 24])) (e := .inr (3, [.ref s1_1, .ref s2_1, .ref s3_1, .ref s4_1, .ref s5_1, .ref s6_1, .ref s7_1, .int pa_34, .int lm_34, .ref s8_1, .ref s9_1, .ref s10_1, .int z_154, .ref s11_1, .int nm_34, .ref s12_1, .ref s13_1, .ref s14_1, .int 1, .ref s15_1, .ref s16_1, .ref s17_1, .ref s18_1])) hfr hg0 (by decide)
                                have hXL := XL.up (e := .inr (3, [.ref s1_1, .ref s2_1, .ref s3_1, .ref s4_1, .ref s5_1, .ref s6_1, .ref s7_1, .int pa_34, .int lm_34, .ref s8_1, .ref s9_1, .ref s10_1, .int z_154, .ref s11_1, .int nm_34, .ref s12_1, .ref s13_1, .ref s14_1, .int 1, .ref s15_1, .ref s16_1, .ref s17_1, .ref s18_1])) hXL hg0 (by decide) (by decide)
                                have hKP := hKP.put eq_148 es_f_157 ⟨rfl, rfl⟩
                                generalize va_up f_147 g0 (.inr (3, [.ref s1_1, .ref s2_1, .ref s3_1, .ref s4_1, .ref s5_1, .ref s6_1, .ref s7_1, .int pa_34, .int lm_34, .ref s8_1, .ref s9_1, .ref s10_1, .int z_154, .ref s11_1, .int nm_34, .ref s12_1, .ref s13_1, .ref s14_1, .int 1, .ref s15_1, .ref s16_1, .ref s17_1, .ref s18_1])) = f_157 at hP hD hPI es_f_157 eq_158 eq_159 eq_160 hfr hXL hKP
                                obtain ⟨i_161, ei_161⟩ : ∃ y : Int32, y = i4 + 1 := ⟨_, rfl⟩
                                refine lv_iinc (v := i_161) (lv' := [(4, .int i_161), (5, .int z_48), (3, .int z_33), (2, .int i2), (0, .ref g0), (1, .int o0)]) hx hb dX3_find_188 hl (k := 1) rfl (by rw [ei_161]; rfl) (by decide) rfl (fun ls hl => ?_)
                                have ki_161 := inc_toInt ei_161 (by omega)
                                refine lv_goto (tgt := 50) hx hb dX3_find_191 (by decide) ?_
                                exact ih_50 i_161 f_157 _ _ _  (by omega) (by omega) ⟨hfr, ⟨hXL, hKP, (congrArg (vAt · 14) es_f_157).trans hnm_35⟩⟩ hPI hP hD hS (lv_sub hl [0, 2, 3, 4, 5] rfl)
                              · have c_153 := mt Int32.le_iff_toInt_le.mpr c_153
                                refine lv_iconst (v := 1) hx hb dX3_find_179 (by decide) ?_
                                refine lv_goto (tgt := 184) hx hb dX3_find_180 (by decide) ?_
                                refine lv_iadd hx hb dX3_find_184 ?_
                                refine lv_topi (fun z_162 ez_162 => ?_)
                                have kz_162 := add_toInt ez_162 (by omega) (by omega)
                                obtain ⟨k_163, hk_163⟩ := va_plg hg0.1 eq_148
                                have hD9 := hD
                                have rg_164 : 0 ≤ Int32.toInt z_162 ∧ Int32.toInt z_162 ≤ 24 := by constructor <;> omega
                                refine va_put (D := (dC, dI)) (ci := 3) (v := .int z_162) (ty := .int) (C := RX3) (T := TX3) (N := 23) hx hb hts iX3_ tyX3 tyX3_ok nmX3 hown hK hP hD hS k_163 hk_163 rfl 12 (by decide) (hts (.fieldLink RX3 167 "FieldLeavesModel" "foundMany" "I") (by decide +kernel)) (fun _ h9 => h9) rfl (by decide +kernel) rfl rfl (Nat.le_of_ble_eq_true rfl) dX3_find_185 (fun H locs hP hD hS => ?_)
                                have hP : va_P (dC, dI) vwCl (va_pl L (va_up f_147 g0 (.inr (3, [.ref s1_1, .ref s2_1, .ref s3_1, .ref s4_1, .ref s5_1, .ref s6_1, .ref s7_1, .int pa_34, .int lm_34, .ref s8_1, .ref s9_1, .ref s10_1, .int z_162, .ref s11_1, .int nm_34, .ref s12_1, .ref s13_1, .ref s14_1, .int 1, .ref s15_1, .ref s16_1, .ref s17_1, .ref s18_1])))) H := by rw [← va_pls hD9 hg0.1 hk_163 _]; exact hP
                                have hD : va_D A (va_pl L (va_up f_147 g0 (.inr (3, [.ref s1_1, .ref s2_1, .ref s3_1, .ref s4_1, .ref s5_1, .ref s6_1, .ref s7_1, .int pa_34, .int lm_34, .ref s8_1, .ref s9_1, .ref s10_1, .int z_162, .ref s11_1, .int nm_34, .ref s12_1, .ref s13_1, .ref s14_1, .int 1, .ref s15_1, .ref s16_1, .ref s17_1, .ref s18_1])))) := by rw [← va_pls hD9 hg0.1 hk_163 _]; exact hD
                                have hPI := hPI.put (e := .inr (3, [.ref s1_1, .ref s2_1, .ref s3_1, .ref s4_1, .ref s5_1, .ref s6_1, .ref s7_1, .int pa_34, .int lm_34, .ref s8_1, .ref s9_1, .ref s10_1, .int z_162, .ref s11_1, .int nm_34, .ref s12_1, .ref s13_1, .ref s14_1, .int 1, .ref s15_1, .ref s16_1, .ref s17_1, .ref s18_1])) hg0 ⟨s1_1, s2_1, s3_1, s4_1, s5_1, s6_1, s7_1, pa_34, lm_34, s8_1, s9_1, s10_1, z_162, s11_1, nm_34, s12_1, s13_1, s14_1, 1, s15_1, s16_1, s17_1, s18_1, rfl, fs1_1, fs2_1, fs3_1, fs4_1, fs5_1, fs6_1, fs7_1, flm_34, fs8_1, fs9_1, fs10_1, rg_164, fs11_1, fnm_34, fs12_1, fs13_1, fs14_1, (Or.inl rfl), fs15_1, fs16_1, fs17_1, fs18_1⟩
                                have es_f_165 : va_up f_147 g0 (.inr (3, [.ref s1_1, .ref s2_1, .ref s3_1, .ref s4_1, .ref s5_1, .ref s6_1, .ref s7_1, .int pa_34, .int lm_34, .ref s8_1, .ref s9_1, .ref s10_1, .int z_162, .ref s11_1, .int nm_34, .ref s12_1, .ref s13_1, .ref s14_1, .int 1, .ref s15_1, .ref s16_1, .ref s17_1, .ref s18_1])) g0 = .inr (3, [.ref s1_1, .ref s2_1, .ref s3_1, .ref s4_1, .ref s5_1, .ref s6_1, .ref s7_1, .int pa_34, .int lm_34, .ref s8_1, .ref s9_1, .ref s10_1, .int z_162, .ref s11_1, .int nm_34, .ref s12_1, .ref s13_1, .ref s14_1, .int 1, .ref s15_1, .ref s16_1, .ref s17_1, .ref s18_1]) := va_up_self _ _ _
                                have eq_166 := (va_up_ne f_147 (.inr (3, [.ref s1_1, .ref s2_1, .ref s3_1, .ref s4_1, .ref s5_1, .ref s6_1, .ref s7_1, .int pa_34, .int lm_34, .ref s8_1, .ref s9_1, .ref s10_1, .int z_162, .ref s11_1, .int nm_34, .ref s12_1, .ref s13_1, .ref s14_1, .int 1, .ref s15_1, .ref s16_1, .ref s17_1, .ref s18_1])) (isr_ne fs2_1 hg0 (by decide))).trans eq_149
                                have eq_167 := (va_up_ne f_147 (.inr (3, [.ref s1_1, .ref s2_1, .ref s3_1, .ref s4_1, .ref s5_1, .ref s6_1, .ref s7_1, .int pa_34, .int lm_34, .ref s8_1, .ref s9_1, .ref s10_1, .int z_162, .ref s11_1, .int nm_34, .ref s12_1, .ref s13_1, .ref s14_1, .int 1, .ref s15_1, .ref s16_1, .ref s17_1, .ref s18_1])) (isr_ne fs3_1 hg0 (by decide))).trans eq_150
                                have eq_168 := (va_up_ne f_147 (.inr (3, [.ref s1_1, .ref s2_1, .ref s3_1, .ref s4_1, .ref s5_1, .ref s6_1, .ref s7_1, .int pa_34, .int lm_34, .ref s8_1, .ref s9_1, .ref s10_1, .int z_162, .ref s11_1, .int nm_34, .ref s12_1, .ref s13_1, .ref s14_1, .int 1, .ref s15_1, .ref s16_1, .ref s17_1, .ref s18_1])) (isr_ne fs11_1 hg0 (by decide))).trans es_f_147
                                have hfr := fr_up (S := (sK [10, 21, 22, 23, 24])) (e := .inr (3, [.ref s1_1, .ref s2_1, .ref s3_1, .ref s4_1, .ref s5_1, .ref s6_1, .ref s7_1, .int pa_34, .int lm_34, .ref s8_1, .ref s9_1, .ref s10_1, .int z_162, .ref s11_1, .int nm_34, .ref s12_1, .ref s13_1, .ref s14_1, .int 1, .ref s15_1, .ref s16_1, .ref s17_1, .ref s18_1])) hfr hg0 (by decide)
                                have hXL := XL.up (e := .inr (3, [.ref s1_1, .ref s2_1, .ref s3_1, .ref s4_1, .ref s5_1, .ref s6_1, .ref s7_1, .int pa_34, .int lm_34, .ref s8_1, .ref s9_1, .ref s10_1, .int z_162, .ref s11_1, .int nm_34, .ref s12_1, .ref s13_1, .ref s14_1, .int 1, .ref s15_1, .ref s16_1, .ref s17_1, .ref s18_1])) hXL hg0 (by decide) (by decide)
                                have hKP := hKP.put eq_148 es_f_165 ⟨rfl, rfl⟩
                                generalize va_up f_147 g0 (.inr (3, [.ref s1_1, .ref s2_1, .ref s3_1, .ref s4_1, .ref s5_1, .ref s6_1, .ref s7_1, .int pa_34, .int lm_34, .ref s8_1, .ref s9_1, .ref s10_1, .int z_162, .ref s11_1, .int nm_34, .ref s12_1, .ref s13_1, .ref s14_1, .int 1, .ref s15_1, .ref s16_1, .ref s17_1, .ref s18_1])) = f_165 at hP hD hPI es_f_165 eq_166 eq_167 eq_168 hfr hXL hKP
                                obtain ⟨i_169, ei_169⟩ : ∃ y : Int32, y = i4 + 1 := ⟨_, rfl⟩
                                refine lv_iinc (v := i_169) (lv' := [(4, .int i_169), (5, .int z_48), (3, .int z_33), (2, .int i2), (0, .ref g0), (1, .int o0)]) hx hb dX3_find_188 hl (k := 1) rfl (by rw [ei_169]; rfl) (by decide) rfl (fun ls hl => ?_)
                                have ki_169 := inc_toInt ei_169 (by omega)
                                refine lv_goto (tgt := 50) hx hb dX3_find_191 (by decide) ?_
                                exact ih_50 i_169 f_165 _ _ _  (by omega) (by omega) ⟨hfr, ⟨hXL, hKP, (congrArg (vAt · 14) es_f_165).trans hnm_35⟩⟩ hPI hP hD hS (lv_sub hl [0, 2, 3, 4, 5] rfl)
                        · refine lv_if_eq (tgt := 136) hx hb dX3_find_120 (by decide) (fun _ => ?_) (fun c9 => absurd c9 (by decide))
                          refine lv_iconst (v := 0) hx hb dX3_find_136 (by decide) ?_
                          obtain ⟨k_170, hk_170⟩ := va_plg hg0.1 e_34
                          have hD9 := hD
                          refine va_put (D := (dC, dI)) (ci := 3) (v := .int 0) (ty := .boolean) (C := RX3) (T := TX3) (N := 23) hx hb hts iX3_ tyX3 tyX3_ok nmX3 hown hK hP hD hS k_170 hk_170 rfl 18 (by decide) (hts (.fieldLink RX3 163 "FieldLeavesModel" "isRoom" "Z") (by decide +kernel)) (fun _ h9 => h9) rfl (by decide +kernel) rfl rfl (Nat.le_of_ble_eq_true rfl) dX3_find_137 (fun H locs hP hD hS => ?_)
                          have hP : va_P (dC, dI) vwCl (va_pl L (va_up fl50 g0 (.inr (3, [.ref s1_1, .ref s2_1, .ref s3_1, .ref s4_1, .ref s5_1, .ref s6_1, .ref s7_1, .int pa_34, .int lm_34, .ref s8_1, .ref s9_1, .ref s10_1, .int fm_34, .ref s11_1, .int nm_34, .ref s12_1, .ref s13_1, .ref s14_1, .int 0, .ref s15_1, .ref s16_1, .ref s17_1, .ref s18_1])))) H := by rw [← va_pls hD9 hg0.1 hk_170 _]; exact hP
                          have hD : va_D A (va_pl L (va_up fl50 g0 (.inr (3, [.ref s1_1, .ref s2_1, .ref s3_1, .ref s4_1, .ref s5_1, .ref s6_1, .ref s7_1, .int pa_34, .int lm_34, .ref s8_1, .ref s9_1, .ref s10_1, .int fm_34, .ref s11_1, .int nm_34, .ref s12_1, .ref s13_1, .ref s14_1, .int 0, .ref s15_1, .ref s16_1, .ref s17_1, .ref s18_1])))) := by rw [← va_pls hD9 hg0.1 hk_170 _]; exact hD
                          have hPI := hPI.put (e := .inr (3, [.ref s1_1, .ref s2_1, .ref s3_1, .ref s4_1, .ref s5_1, .ref s6_1, .ref s7_1, .int pa_34, .int lm_34, .ref s8_1, .ref s9_1, .ref s10_1, .int fm_34, .ref s11_1, .int nm_34, .ref s12_1, .ref s13_1, .ref s14_1, .int 0, .ref s15_1, .ref s16_1, .ref s17_1, .ref s18_1])) hg0 ⟨s1_1, s2_1, s3_1, s4_1, s5_1, s6_1, s7_1, pa_34, lm_34, s8_1, s9_1, s10_1, fm_34, s11_1, nm_34, s12_1, s13_1, s14_1, 0, s15_1, s16_1, s17_1, s18_1, rfl, fs1_1, fs2_1, fs3_1, fs4_1, fs5_1, fs6_1, fs7_1, flm_34, fs8_1, fs9_1, fs10_1, ffm_34, fs11_1, fnm_34, fs12_1, fs13_1, fs14_1, (Or.inr rfl), fs15_1, fs16_1, fs17_1, fs18_1⟩
                          have es_f_171 : va_up fl50 g0 (.inr (3, [.ref s1_1, .ref s2_1, .ref s3_1, .ref s4_1, .ref s5_1, .ref s6_1, .ref s7_1, .int pa_34, .int lm_34, .ref s8_1, .ref s9_1, .ref s10_1, .int fm_34, .ref s11_1, .int nm_34, .ref s12_1, .ref s13_1, .ref s14_1, .int 0, .ref s15_1, .ref s16_1, .ref s17_1, .ref s18_1])) g0 = .inr (3, [.ref s1_1, .ref s2_1, .ref s3_1, .ref s4_1, .ref s5_1, .ref s6_1, .ref s7_1, .int pa_34, .int lm_34, .ref s8_1, .ref s9_1, .ref s10_1, .int fm_34, .ref s11_1, .int nm_34, .ref s12_1, .ref s13_1, .ref s14_1, .int 0, .ref s15_1, .ref s16_1, .ref s17_1, .ref s18_1]) := va_up_self _ _ _
                          have eq_172 := (va_up_ne fl50 (.inr (3, [.ref s1_1, .ref s2_1, .ref s3_1, .ref s4_1, .ref s5_1, .ref s6_1, .ref s7_1, .int pa_34, .int lm_34, .ref s8_1, .ref s9_1, .ref s10_1, .int fm_34, .ref s11_1, .int nm_34, .ref s12_1, .ref s13_1, .ref s14_1, .int 0, .ref s15_1, .ref s16_1, .ref s17_1, .ref s18_1])) (isr_ne fs2_1 hg0 (by decide))).trans e_41
                          have eq_173 := (va_up_ne fl50 (.inr (3, [.ref s1_1, .ref s2_1, .ref s3_1, .ref s4_1, .ref s5_1, .ref s6_1, .ref s7_1, .int pa_34, .int lm_34, .ref s8_1, .ref s9_1, .ref s10_1, .int fm_34, .ref s11_1, .int nm_34, .ref s12_1, .ref s13_1, .ref s14_1, .int 0, .ref s15_1, .ref s16_1, .ref s17_1, .ref s18_1])) (isr_ne fs3_1 hg0 (by decide))).trans e_47
                          have hfr := fr_up (S := (sK [10, 21, 22, 23, 24])) (e := .inr (3, [.ref s1_1, .ref s2_1, .ref s3_1, .ref s4_1, .ref s5_1, .ref s6_1, .ref s7_1, .int pa_34, .int lm_34, .ref s8_1, .ref s9_1, .ref s10_1, .int fm_34, .ref s11_1, .int nm_34, .ref s12_1, .ref s13_1, .ref s14_1, .int 0, .ref s15_1, .ref s16_1, .ref s17_1, .ref s18_1])) hfr hg0 (by decide)
                          have hXL := XL.up (e := .inr (3, [.ref s1_1, .ref s2_1, .ref s3_1, .ref s4_1, .ref s5_1, .ref s6_1, .ref s7_1, .int pa_34, .int lm_34, .ref s8_1, .ref s9_1, .ref s10_1, .int fm_34, .ref s11_1, .int nm_34, .ref s12_1, .ref s13_1, .ref s14_1, .int 0, .ref s15_1, .ref s16_1, .ref s17_1, .ref s18_1])) hXL hg0 (by decide) (by decide)
                          have hKP := hKP.put e_34 es_f_171 ⟨rfl, rfl⟩
                          generalize va_up fl50 g0 (.inr (3, [.ref s1_1, .ref s2_1, .ref s3_1, .ref s4_1, .ref s5_1, .ref s6_1, .ref s7_1, .int pa_34, .int lm_34, .ref s8_1, .ref s9_1, .ref s10_1, .int fm_34, .ref s11_1, .int nm_34, .ref s12_1, .ref s13_1, .ref s14_1, .int 0, .ref s15_1, .ref s16_1, .ref s17_1, .ref s18_1])) = f_171 at hP hD hPI es_f_171 eq_172 eq_173 hfr hXL hKP
                          refine lv_aload_n hx hb dX3_find_140 rfl (lv_at hl 4 rfl) ?_
                          obtain ⟨k_174, hk_174⟩ := va_plg hg0.1 es_f_171
                          refine va_get (D := (dC, dI)) (ci := 3) (v := .ref s11_1) (C := RX3) (T := TX3) (N := 23) hx hb hts iX3_ hown hK hP k_174 hk_174 rfl 13 (by decide) (hts (.fieldLink RX3 44 "FieldLeavesModel" "found" "[I") (by decide +kernel)) (fun _ h9 => h9) rfl dX3_find_141 ?_
                          refine lv_aload_n hx hb dX3_find_144 rfl (lv_at hl 4 rfl) ?_
                          obtain ⟨k_175, hk_175⟩ := va_plg hg0.1 es_f_171
                          refine va_get (D := (dC, dI)) (ci := 3) (v := .int fm_34) (C := RX3) (T := TX3) (N := 23) hx hb hts iX3_ hown hK hP k_175 hk_175 rfl 12 (by decide) (hts (.fieldLink RX3 167 "FieldLeavesModel" "foundMany" "I") (by decide +kernel)) (fun _ h9 => h9) rfl dX3_find_145 ?_
                          refine lv_bipush (v := 24) hx hb dX3_find_148 (by decide) ?_
                          refine lv_icmp_ge (tgt := 160) hx hb dX3_find_150 (by decide) (fun c_176 => ?_) (fun c_176 => ?_)
                          · have c_176 := Int32.le_iff_toInt_le.mp c_176
                            refine lv_bipush (v := 24) hx hb dX3_find_160 (by decide) ?_
                            refine lv_iload hx hb dX3_find_162 (lv_at hl 0 rfl) ?_
                            obtain ⟨g_177, e_177, fg_177⟩ := hPI.a21 fs11_1
                            obtain ⟨k_177, hk_177⟩ := va_plg fs11_1.1 e_177
                            have h_177 : vp_in 24 25 := (vp_in_iff.mpr (by decide))
                            have fw_177 := updS (P := fun v => 0 ≤ v.toInt ∧ v.toInt < 6400) (k := Int32.toNatClampNeg 24) (v := z_48) fg_177 (by omega)
                            have hD9 := hD
                            refine va_iast hx hb hK hP hD hS k_177 0 hk_177 rfl h_177 dX3_find_164 (fun H locs hP hD hS => ?_)
                            have hP : va_P (dC, dI) vwCl (va_pl L (va_up f_171 s11_1 (.inl (kI, 25, .inl (upd g_177 (Int32.toNatClampNeg 24) z_48))))) H := by rw [← va_pls hD9 fs11_1.1 hk_177 _]; exact hP
                            have hD : va_D A (va_pl L (va_up f_171 s11_1 (.inl (kI, 25, .inl (upd g_177 (Int32.toNatClampNeg 24) z_48))))) := by rw [← va_pls hD9 fs11_1.1 hk_177 _]; exact hD
                            have hPI := hPI.put (e := .inl (kI, 25, .inl (upd g_177 (Int32.toNatClampNeg 24) z_48))) fs11_1 ⟨_, rfl, fw_177⟩
                            have es_f_178 : va_up f_171 s11_1 (.inl (kI, 25, .inl (upd g_177 (Int32.toNatClampNeg 24) z_48))) s11_1 = .inl (kI, 25, .inl (upd g_177 (Int32.toNatClampNeg 24) z_48)) := va_up_self _ _ _
                            have eq_179 := (va_up_ne f_171 (.inl (kI, 25, .inl (upd g_177 (Int32.toNatClampNeg 24) z_48))) (isr_ne hg0 fs11_1 (by decide))).trans es_f_171
                            have eq_180 := (va_up_ne f_171 (.inl (kI, 25, .inl (upd g_177 (Int32.toNatClampNeg 24) z_48))) (isr_ne fs2_1 fs11_1 (by decide))).trans eq_172
                            have eq_181 := (va_up_ne f_171 (.inl (kI, 25, .inl (upd g_177 (Int32.toNatClampNeg 24) z_48))) (isr_ne fs3_1 fs11_1 (by decide))).trans eq_173
                            have hfr := fr_up (S := (sK [10, 21, 22, 23, 24])) (e := .inl (kI, 25, .inl (upd g_177 (Int32.toNatClampNeg 24) z_48))) hfr fs11_1 (by decide)
                            have hXL := XL.up (e := .inl (kI, 25, .inl (upd g_177 (Int32.toNatClampNeg 24) z_48))) hXL fs11_1 (by decide) (by decide)
                            have hKP := hKP.same (va_up_ne f_171 (.inl (kI, 25, .inl (upd g_177 (Int32.toNatClampNeg 24) z_48))) (isr_ne hg0 fs11_1 (by decide)))
                            generalize va_up f_171 s11_1 (.inl (kI, 25, .inl (upd g_177 (Int32.toNatClampNeg 24) z_48))) = f_178 at hP hD hPI es_f_178 eq_179 eq_180 eq_181 hfr hXL hKP
                            refine lv_aload_n hx hb dX3_find_165 rfl (lv_at hl 4 rfl) ?_
                            refine lv_dup hx hb dX3_find_166 rfl ?_
                            obtain ⟨k_182, hk_182⟩ := va_plg hg0.1 eq_179
                            refine va_get (D := (dC, dI)) (ci := 3) (v := .int fm_34) (C := RX3) (T := TX3) (N := 23) hx hb hts iX3_ hown hK hP k_182 hk_182 rfl 12 (by decide) (hts (.fieldLink RX3 167 "FieldLeavesModel" "foundMany" "I") (by decide +kernel)) (fun _ h9 => h9) rfl dX3_find_167 ?_
                            refine lv_aload_n hx hb dX3_find_170 rfl (lv_at hl 4 rfl) ?_
                            obtain ⟨k_183, hk_183⟩ := va_plg hg0.1 eq_179
                            refine va_get (D := (dC, dI)) (ci := 3) (v := .int fm_34) (C := RX3) (T := TX3) (N := 23) hx hb hts iX3_ hown hK hP k_183 hk_183 rfl 12 (by decide) (hts (.fieldLink RX3 167 "FieldLeavesModel" "foundMany" "I") (by decide +kernel)) (fun _ h9 => h9) rfl dX3_find_171 ?_
                            refine lv_bipush (v := 24) hx hb dX3_find_174 (by decide) ?_
                            refine lv_icmp_ge (tgt := 183) hx hb dX3_find_176 (by decide) (fun c_184 => ?_) (fun c_184 => ?_)
                            · have c_184 := Int32.le_iff_toInt_le.mp c_184
                              refine lv_iconst (v := 0) hx hb dX3_find_183 (by decide) ?_
                              refine lv_iadd hx hb dX3_find_184 ?_
                              refine lv_topi (fun z_185 ez_185 => ?_)
                              have kz_185 := add_toInt ez_185 (by omega) (by omega)
                              obtain ⟨k_186, hk_186⟩ := va_plg hg0.1 eq_179
                              have hD9 := hD
                              have rg_187 : 0 ≤ Int32.toInt z_185 ∧ Int32.toInt z_185 ≤ 24 := by constructor <;> omega
                              refine va_put (D := (dC, dI)) (ci := 3) (v := .int z_185) (ty := .int) (C := RX3) (T := TX3) (N := 23) hx hb hts iX3_ tyX3 tyX3_ok nmX3 hown hK hP hD hS k_186 hk_186 rfl 12 (by decide) (hts (.fieldLink RX3 167 "FieldLeavesModel" "foundMany" "I") (by decide +kernel)) (fun _ h9 => h9) rfl (by decide +kernel) rfl rfl (Nat.le_of_ble_eq_true rfl) dX3_find_185 (fun H locs hP hD hS => ?_)
                              have hP : va_P (dC, dI) vwCl (va_pl L (va_up f_178 g0 (.inr (3, [.ref s1_1, .ref s2_1, .ref s3_1, .ref s4_1, .ref s5_1, .ref s6_1, .ref s7_1, .int pa_34, .int lm_34, .ref s8_1, .ref s9_1, .ref s10_1, .int z_185, .ref s11_1, .int nm_34, .ref s12_1, .ref s13_1, .ref s14_1, .int 0, .ref s15_1, .ref s16_1, .ref s17_1, .ref s18_1])))) H := by rw [← va_pls hD9 hg0.1 hk_186 _]; exact hP
                              have hD : va_D A (va_pl L (va_up f_178 g0 (.inr (3, [.ref s1_1, .ref s2_1, .ref s3_1, .ref s4_1, .ref s5_1, .ref s6_1, .ref s7_1, .int pa_34, .int lm_34, .ref s8_1, .ref s9_1, .ref s10_1, .int z_185, .ref s11_1, .int nm_34, .ref s12_1, .ref s13_1, .ref s14_1, .int 0, .ref s15_1, .ref s16_1, .ref s17_1, .ref s18_1])))) := by rw [← va_pls hD9 hg0.1 hk_186 _]; exact hD
                              have hPI := hPI.put (e := .inr (3, [.ref s1_1, .ref s2_1, .ref s3_1, .ref s4_1, .ref s5_1, .ref s6_1, .ref s7_1, .int pa_34, .int lm_34, .ref s8_1, .ref s9_1, .ref s10_1, .int z_185, .ref s11_1, .int nm_34, .ref s12_1, .ref s13_1, .ref s14_1, .int 0, .ref s15_1, .ref s16_1, .ref s17_1, .ref s18_1])) hg0 ⟨s1_1, s2_1, s3_1, s4_1, s5_1, s6_1, s7_1, pa_34, lm_34, s8_1, s9_1, s10_1, z_185, s11_1, nm_34, s12_1, s13_1, s14_1, 0, s15_1, s16_1, s17_1, s18_1, rfl, fs1_1, fs2_1, fs3_1, fs4_1, fs5_1, fs6_1, fs7_1, flm_34, fs8_1, fs9_1, fs10_1, rg_187, fs11_1, fnm_34, fs12_1, fs13_1, fs14_1, (Or.inr rfl), fs15_1, fs16_1, fs17_1, fs18_1⟩
                              have es_f_188 : va_up f_178 g0 (.inr (3, [.ref s1_1, .ref s2_1, .ref s3_1, .ref s4_1, .ref s5_1, .ref s6_1, .ref s7_1, .int pa_34, .int lm_34, .ref s8_1, .ref s9_1, .ref s10_1, .int z_185, .ref s11_1, .int nm_34, .ref s12_1, .ref s13_1, .ref s14_1, .int 0, .ref s15_1, .ref s16_1, .ref s17_1, .ref s18_1])) g0 = .inr (3, [.ref s1_1, .ref s2_1, .ref s3_1, .ref s4_1, .ref s5_1, .ref s6_1, .ref s7_1, .int pa_34, .int lm_34, .ref s8_1, .ref s9_1, .ref s10_1, .int z_185, .ref s11_1, .int nm_34, .ref s12_1, .ref s13_1, .ref s14_1, .int 0, .ref s15_1, .ref s16_1, .ref s17_1, .ref s18_1]) := va_up_self _ _ _
                              have eq_189 := (va_up_ne f_178 (.inr (3, [.ref s1_1, .ref s2_1, .ref s3_1, .ref s4_1, .ref s5_1, .ref s6_1, .ref s7_1, .int pa_34, .int lm_34, .ref s8_1, .ref s9_1, .ref s10_1, .int z_185, .ref s11_1, .int nm_34, .ref s12_1, .ref s13_1, .ref s14_1, .int 0, .ref s15_1, .ref s16_1, .ref s17_1, .ref s18_1])) (isr_ne fs2_1 hg0 (by decide))).trans eq_180
                              have eq_190 := (va_up_ne f_178 (.inr (3, [.ref s1_1, .ref s2_1, .ref s3_1, .ref s4_1, .ref s5_1, .ref s6_1, .ref s7_1, .int pa_34, .int lm_34, .ref s8_1, .ref s9_1, .ref s10_1, .int z_185, .ref s11_1, .int nm_34, .ref s12_1, .ref s13_1, .ref s14_1, .int 0, .ref s15_1, .ref s16_1, .ref s17_1, .ref s18_1])) (isr_ne fs3_1 hg0 (by decide))).trans eq_181
                              have eq_191 := (va_up_ne f_178 (.inr (3, [.ref s1_1, .ref s2_1, .ref s3_1, .ref s4_1, .ref s5_1, .ref s6_1, .ref s7_1, .int pa_34, .int lm_34, .ref s8_1, .ref s9_1, .ref s10_1, .int z_185, .ref s11_1, .int nm_34, .ref s12_1, .ref s13_1, .ref s14_1, .int 0, .ref s15_1, .ref s16_1, .ref s17_1, .ref s18_1])) (isr_ne fs11_1 hg0 (by decide))).trans es_f_178
                              have hfr := fr_up (S := (sK [10, 21, 22, 23, 24])) (e := .inr (3, [.ref s1_1, .ref s2_1, .ref s3_1, .ref s4_1, .ref s5_1, .ref s6_1, .ref s7_1, .int pa_34, .int lm_34, .ref s8_1, .ref s9_1, .ref s10_1, .int z_185, .ref s11_1, .int nm_34, .ref s12_1, .ref s13_1, .ref s14_1, .int 0, .ref s15_1, .ref s16_1, .ref s17_1, .ref s18_1])) hfr hg0 (by decide)
                              have hXL := XL.up (e := .inr (3, [.ref s1_1, .ref s2_1, .ref s3_1, .ref s4_1, .ref s5_1, .ref s6_1, .ref s7_1, .int pa_34, .int lm_34, .ref s8_1, .ref s9_1, .ref s10_1, .int z_185, .ref s11_1, .int nm_34, .ref s12_1, .ref s13_1, .ref s14_1, .int 0, .ref s15_1, .ref s16_1, .ref s17_1, .ref s18_1])) hXL hg0 (by decide) (by decide)
                              have hKP := hKP.put eq_179 es_f_188 ⟨rfl, rfl⟩
                              generalize va_up f_178 g0 (.inr (3, [.ref s1_1, .ref s2_1, .ref s3_1, .ref s4_1, .ref s5_1, .ref s6_1, .ref s7_1, .int pa_34, .int lm_34, .ref s8_1, .ref s9_1, .ref s10_1, .int z_185, .ref s11_1, .int nm_34, .ref s12_1, .ref s13_1, .ref s14_1, .int 0, .ref s15_1, .ref s16_1, .ref s17_1, .ref s18_1])) = f_188 at hP hD hPI es_f_188 eq_189 eq_190 eq_191 hfr hXL hKP
                              obtain ⟨i_192, ei_192⟩ : ∃ y : Int32, y = i4 + 1 := ⟨_, rfl⟩
                              refine lv_iinc (v := i_192) (lv' := [(4, .int i_192), (5, .int z_48), (3, .int z_33), (2, .int i2), (0, .ref g0), (1, .int o0)]) hx hb dX3_find_188 hl (k := 1) rfl (by rw [ei_192]; rfl) (by decide) rfl (fun ls hl => ?_)
                              have ki_192 := inc_toInt ei_192 (by omega)
                              refine lv_goto (tgt := 50) hx hb dX3_find_191 (by decide) ?_
                              exact ih_50 i_192 f_188 _ _ _  (by omega) (by omega) ⟨hfr, ⟨hXL, hKP, (congrArg (vAt · 14) es_f_188).trans hnm_35⟩⟩ hPI hP hD hS (lv_sub hl [0, 2, 3, 4, 5] rfl)
                            · have c_184 := mt Int32.le_iff_toInt_le.mpr c_184
                              refine lv_iconst (v := 1) hx hb dX3_find_179 (by decide) ?_
                              refine lv_goto (tgt := 184) hx hb dX3_find_180 (by decide) ?_
                              refine lv_iadd hx hb dX3_find_184 ?_
                              refine lv_topi (fun z_193 ez_193 => ?_)
                              have kz_193 := add_toInt ez_193 (by omega) (by omega)
                              obtain ⟨k_194, hk_194⟩ := va_plg hg0.1 eq_179
                              have hD9 := hD
                              have rg_195 : 0 ≤ Int32.toInt z_193 ∧ Int32.toInt z_193 ≤ 24 := by constructor <;> omega
                              refine va_put (D := (dC, dI)) (ci := 3) (v := .int z_193) (ty := .int) (C := RX3) (T := TX3) (N := 23) hx hb hts iX3_ tyX3 tyX3_ok nmX3 hown hK hP hD hS k_194 hk_194 rfl 12 (by decide) (hts (.fieldLink RX3 167 "FieldLeavesModel" "foundMany" "I") (by decide +kernel)) (fun _ h9 => h9) rfl (by decide +kernel) rfl rfl (Nat.le_of_ble_eq_true rfl) dX3_find_185 (fun H locs hP hD hS => ?_)
                              have hP : va_P (dC, dI) vwCl (va_pl L (va_up f_178 g0 (.inr (3, [.ref s1_1, .ref s2_1, .ref s3_1, .ref s4_1, .ref s5_1, .ref s6_1, .ref s7_1, .int pa_34, .int lm_34, .ref s8_1, .ref s9_1, .ref s10_1, .int z_193, .ref s11_1, .int nm_34, .ref s12_1, .ref s13_1, .ref s14_1, .int 0, .ref s15_1, .ref s16_1, .ref s17_1, .ref s18_1])))) H := by rw [← va_pls hD9 hg0.1 hk_194 _]; exact hP
                              have hD : va_D A (va_pl L (va_up f_178 g0 (.inr (3, [.ref s1_1, .ref s2_1, .ref s3_1, .ref s4_1, .ref s5_1, .ref s6_1, .ref s7_1, .int pa_34, .int lm_34, .ref s8_1, .ref s9_1, .ref s10_1, .int z_193, .ref s11_1, .int nm_34, .ref s12_1, .ref s13_1, .ref s14_1, .int 0, .ref s15_1, .ref s16_1, .ref s17_1, .ref s18_1])))) := by rw [← va_pls hD9 hg0.1 hk_194 _]; exact hD
                              have hPI := hPI.put (e := .inr (3, [.ref s1_1, .ref s2_1, .ref s3_1, .ref s4_1, .ref s5_1, .ref s6_1, .ref s7_1, .int pa_34, .int lm_34, .ref s8_1, .ref s9_1, .ref s10_1, .int z_193, .ref s11_1, .int nm_34, .ref s12_1, .ref s13_1, .ref s14_1, .int 0, .ref s15_1, .ref s16_1, .ref s17_1, .ref s18_1])) hg0 ⟨s1_1, s2_1, s3_1, s4_1, s5_1, s6_1, s7_1, pa_34, lm_34, s8_1, s9_1, s10_1, z_193, s11_1, nm_34, s12_1, s13_1, s14_1, 0, s15_1, s16_1, s17_1, s18_1, rfl, fs1_1, fs2_1, fs3_1, fs4_1, fs5_1, fs6_1, fs7_1, flm_34, fs8_1, fs9_1, fs10_1, rg_195, fs11_1, fnm_34, fs12_1, fs13_1, fs14_1, (Or.inr rfl), fs15_1, fs16_1, fs17_1, fs18_1⟩
                              have es_f_196 : va_up f_178 g0 (.inr (3, [.ref s1_1, .ref s2_1, .ref s3_1, .ref s4_1, .ref s5_1, .ref s6_1, .ref s7_1, .int pa_34, .int lm_34, .ref s8_1, .ref s9_1, .ref s10_1, .int z_193, .ref s11_1, .int nm_34, .ref s12_1, .ref s13_1, .ref s14_1, .int 0, .ref s15_1, .ref s16_1, .ref s17_1, .ref s18_1])) g0 = .inr (3, [.ref s1_1, .ref s2_1, .ref s3_1, .ref s4_1, .ref s5_1, .ref s6_1, .ref s7_1, .int pa_34, .int lm_34, .ref s8_1, .ref s9_1, .ref s10_1, .int z_193, .ref s11_1, .int nm_34, .ref s12_1, .ref s13_1, .ref s14_1, .int 0, .ref s15_1, .ref s16_1, .ref s17_1, .ref s18_1]) := va_up_self _ _ _
                              have eq_197 := (va_up_ne f_178 (.inr (3, [.ref s1_1, .ref s2_1, .ref s3_1, .ref s4_1, .ref s5_1, .ref s6_1, .ref s7_1, .int pa_34, .int lm_34, .ref s8_1, .ref s9_1, .ref s10_1, .int z_193, .ref s11_1, .int nm_34, .ref s12_1, .ref s13_1, .ref s14_1, .int 0, .ref s15_1, .ref s16_1, .ref s17_1, .ref s18_1])) (isr_ne fs2_1 hg0 (by decide))).trans eq_180
                              have eq_198 := (va_up_ne f_178 (.inr (3, [.ref s1_1, .ref s2_1, .ref s3_1, .ref s4_1, .ref s5_1, .ref s6_1, .ref s7_1, .int pa_34, .int lm_34, .ref s8_1, .ref s9_1, .ref s10_1, .int z_193, .ref s11_1, .int nm_34, .ref s12_1, .ref s13_1, .ref s14_1, .int 0, .ref s15_1, .ref s16_1, .ref s17_1, .ref s18_1])) (isr_ne fs3_1 hg0 (by decide))).trans eq_181
                              have eq_199 := (va_up_ne f_178 (.inr (3, [.ref s1_1, .ref s2_1, .ref s3_1, .ref s4_1, .ref s5_1, .ref s6_1, .ref s7_1, .int pa_34, .int lm_34, .ref s8_1, .ref s9_1, .ref s10_1, .int z_193, .ref s11_1, .int nm_34, .ref s12_1, .ref s13_1, .ref s14_1, .int 0, .ref s15_1, .ref s16_1, .ref s17_1, .ref s18_1])) (isr_ne fs11_1 hg0 (by decide))).trans es_f_178
                              have hfr := fr_up (S := (sK [10, 21, 22, 23, 24])) (e := .inr (3, [.ref s1_1, .ref s2_1, .ref s3_1, .ref s4_1, .ref s5_1, .ref s6_1, .ref s7_1, .int pa_34, .int lm_34, .ref s8_1, .ref s9_1, .ref s10_1, .int z_193, .ref s11_1, .int nm_34, .ref s12_1, .ref s13_1, .ref s14_1, .int 0, .ref s15_1, .ref s16_1, .ref s17_1, .ref s18_1])) hfr hg0 (by decide)
                              have hXL := XL.up (e := .inr (3, [.ref s1_1, .ref s2_1, .ref s3_1, .ref s4_1, .ref s5_1, .ref s6_1, .ref s7_1, .int pa_34, .int lm_34, .ref s8_1, .ref s9_1, .ref s10_1, .int z_193, .ref s11_1, .int nm_34, .ref s12_1, .ref s13_1, .ref s14_1, .int 0, .ref s15_1, .ref s16_1, .ref s17_1, .ref s18_1])) hXL hg0 (by decide) (by decide)
                              have hKP := hKP.put eq_179 es_f_196 ⟨rfl, rfl⟩
                              generalize va_up f_178 g0 (.inr (3, [.ref s1_1, .ref s2_1, .ref s3_1, .ref s4_1, .ref s5_1, .ref s6_1, .ref s7_1, .int pa_34, .int lm_34, .ref s8_1, .ref s9_1, .ref s10_1, .int z_193, .ref s11_1, .int nm_34, .ref s12_1, .ref s13_1, .ref s14_1, .int 0, .ref s15_1, .ref s16_1, .ref s17_1, .ref s18_1])) = f_196 at hP hD hPI es_f_196 eq_197 eq_198 eq_199 hfr hXL hKP
                              obtain ⟨i_200, ei_200⟩ : ∃ y : Int32, y = i4 + 1 := ⟨_, rfl⟩
                              refine lv_iinc (v := i_200) (lv' := [(4, .int i_200), (5, .int z_48), (3, .int z_33), (2, .int i2), (0, .ref g0), (1, .int o0)]) hx hb dX3_find_188 hl (k := 1) rfl (by rw [ei_200]; rfl) (by decide) rfl (fun ls hl => ?_)
                              have ki_200 := inc_toInt ei_200 (by omega)
                              refine lv_goto (tgt := 50) hx hb dX3_find_191 (by decide) ?_
                              exact ih_50 i_200 f_196 _ _ _  (by omega) (by omega) ⟨hfr, ⟨hXL, hKP, (congrArg (vAt · 14) es_f_196).trans hnm_35⟩⟩ hPI hP hD hS (lv_sub hl [0, 2, 3, 4, 5] rfl)
                          · have c_176 := mt Int32.le_iff_toInt_le.mpr c_176
                            refine lv_aload_n hx hb dX3_find_153 rfl (lv_at hl 4 rfl) ?_
                            obtain ⟨k_201, hk_201⟩ := va_plg hg0.1 es_f_171
                            refine va_get (D := (dC, dI)) (ci := 3) (v := .int fm_34) (C := RX3) (T := TX3) (N := 23) hx hb hts iX3_ hown hK hP k_201 hk_201 rfl 12 (by decide) (hts (.fieldLink RX3 167 "FieldLeavesModel" "foundMany" "I") (by decide +kernel)) (fun _ h9 => h9) rfl dX3_find_154 ?_
                            refine lv_goto (tgt := 162) hx hb dX3_find_157 (by decide) ?_
                            refine lv_iload hx hb dX3_find_162 (lv_at hl 0 rfl) ?_
                            obtain ⟨g_202, e_202, fg_202⟩ := hPI.a21 fs11_1
                            obtain ⟨k_202, hk_202⟩ := va_plg fs11_1.1 e_202
                            have h_202 : vp_in fm_34 25 := (vp_in_iff.mpr (by constructor <;> omega))
                            have fw_202 := updS (P := fun v => 0 ≤ v.toInt ∧ v.toInt < 6400) (k := Int32.toNatClampNeg fm_34) (v := z_48) fg_202 (by omega)
                            have hD9 := hD
                            refine va_iast hx hb hK hP hD hS k_202 0 hk_202 rfl h_202 dX3_find_164 (fun H locs hP hD hS => ?_)
                            have hP : va_P (dC, dI) vwCl (va_pl L (va_up f_171 s11_1 (.inl (kI, 25, .inl (upd g_202 (Int32.toNatClampNeg fm_34) z_48))))) H := by rw [← va_pls hD9 fs11_1.1 hk_202 _]; exact hP
                            have hD : va_D A (va_pl L (va_up f_171 s11_1 (.inl (kI, 25, .inl (upd g_202 (Int32.toNatClampNeg fm_34) z_48))))) := by rw [← va_pls hD9 fs11_1.1 hk_202 _]; exact hD
                            have hPI := hPI.put (e := .inl (kI, 25, .inl (upd g_202 (Int32.toNatClampNeg fm_34) z_48))) fs11_1 ⟨_, rfl, fw_202⟩
                            have es_f_203 : va_up f_171 s11_1 (.inl (kI, 25, .inl (upd g_202 (Int32.toNatClampNeg fm_34) z_48))) s11_1 = .inl (kI, 25, .inl (upd g_202 (Int32.toNatClampNeg fm_34) z_48)) := va_up_self _ _ _
                            have eq_204 := (va_up_ne f_171 (.inl (kI, 25, .inl (upd g_202 (Int32.toNatClampNeg fm_34) z_48))) (isr_ne hg0 fs11_1 (by decide))).trans es_f_171
                            have eq_205 := (va_up_ne f_171 (.inl (kI, 25, .inl (upd g_202 (Int32.toNatClampNeg fm_34) z_48))) (isr_ne fs2_1 fs11_1 (by decide))).trans eq_172
                            have eq_206 := (va_up_ne f_171 (.inl (kI, 25, .inl (upd g_202 (Int32.toNatClampNeg fm_34) z_48))) (isr_ne fs3_1 fs11_1 (by decide))).trans eq_173
                            have hfr := fr_up (S := (sK [10, 21, 22, 23, 24])) (e := .inl (kI, 25, .inl (upd g_202 (Int32.toNatClampNeg fm_34) z_48))) hfr fs11_1 (by decide)
                            have hXL := XL.up (e := .inl (kI, 25, .inl (upd g_202 (Int32.toNatClampNeg fm_34) z_48))) hXL fs11_1 (by decide) (by decide)
                            have hKP := hKP.same (va_up_ne f_171 (.inl (kI, 25, .inl (upd g_202 (Int32.toNatClampNeg fm_34) z_48))) (isr_ne hg0 fs11_1 (by decide)))
                            generalize va_up f_171 s11_1 (.inl (kI, 25, .inl (upd g_202 (Int32.toNatClampNeg fm_34) z_48))) = f_203 at hP hD hPI es_f_203 eq_204 eq_205 eq_206 hfr hXL hKP
                            refine lv_aload_n hx hb dX3_find_165 rfl (lv_at hl 4 rfl) ?_
                            refine lv_dup hx hb dX3_find_166 rfl ?_
                            obtain ⟨k_207, hk_207⟩ := va_plg hg0.1 eq_204
                            refine va_get (D := (dC, dI)) (ci := 3) (v := .int fm_34) (C := RX3) (T := TX3) (N := 23) hx hb hts iX3_ hown hK hP k_207 hk_207 rfl 12 (by decide) (hts (.fieldLink RX3 167 "FieldLeavesModel" "foundMany" "I") (by decide +kernel)) (fun _ h9 => h9) rfl dX3_find_167 ?_
                            refine lv_aload_n hx hb dX3_find_170 rfl (lv_at hl 4 rfl) ?_
                            obtain ⟨k_208, hk_208⟩ := va_plg hg0.1 eq_204
                            refine va_get (D := (dC, dI)) (ci := 3) (v := .int fm_34) (C := RX3) (T := TX3) (N := 23) hx hb hts iX3_ hown hK hP k_208 hk_208 rfl 12 (by decide) (hts (.fieldLink RX3 167 "FieldLeavesModel" "foundMany" "I") (by decide +kernel)) (fun _ h9 => h9) rfl dX3_find_171 ?_
                            refine lv_bipush (v := 24) hx hb dX3_find_174 (by decide) ?_
                            refine lv_icmp_ge (tgt := 183) hx hb dX3_find_176 (by decide) (fun c_209 => ?_) (fun c_209 => ?_)
                            · have c_209 := Int32.le_iff_toInt_le.mp c_209
                              refine lv_iconst (v := 0) hx hb dX3_find_183 (by decide) ?_
                              refine lv_iadd hx hb dX3_find_184 ?_
                              refine lv_topi (fun z_210 ez_210 => ?_)
                              have kz_210 := add_toInt ez_210 (by omega) (by omega)
                              obtain ⟨k_211, hk_211⟩ := va_plg hg0.1 eq_204
                              have hD9 := hD
                              have rg_212 : 0 ≤ Int32.toInt z_210 ∧ Int32.toInt z_210 ≤ 24 := by constructor <;> omega
                              refine va_put (D := (dC, dI)) (ci := 3) (v := .int z_210) (ty := .int) (C := RX3) (T := TX3) (N := 23) hx hb hts iX3_ tyX3 tyX3_ok nmX3 hown hK hP hD hS k_211 hk_211 rfl 12 (by decide) (hts (.fieldLink RX3 167 "FieldLeavesModel" "foundMany" "I") (by decide +kernel)) (fun _ h9 => h9) rfl (by decide +kernel) rfl rfl (Nat.le_of_ble_eq_true rfl) dX3_find_185 (fun H locs hP hD hS => ?_)
                              have hP : va_P (dC, dI) vwCl (va_pl L (va_up f_203 g0 (.inr (3, [.ref s1_1, .ref s2_1, .ref s3_1, .ref s4_1, .ref s5_1, .ref s6_1, .ref s7_1, .int pa_34, .int lm_34, .ref s8_1, .ref s9_1, .ref s10_1, .int z_210, .ref s11_1, .int nm_34, .ref s12_1, .ref s13_1, .ref s14_1, .int 0, .ref s15_1, .ref s16_1, .ref s17_1, .ref s18_1])))) H := by rw [← va_pls hD9 hg0.1 hk_211 _]; exact hP
                              have hD : va_D A (va_pl L (va_up f_203 g0 (.inr (3, [.ref s1_1, .ref s2_1, .ref s3_1, .ref s4_1, .ref s5_1, .ref s6_1, .ref s7_1, .int pa_34, .int lm_34, .ref s8_1, .ref s9_1, .ref s10_1, .int z_210, .ref s11_1, .int nm_34, .ref s12_1, .ref s13_1, .ref s14_1, .int 0, .ref s15_1, .ref s16_1, .ref s17_1, .ref s18_1])))) := by rw [← va_pls hD9 hg0.1 hk_211 _]; exact hD
                              have hPI := hPI.put (e := .inr (3, [.ref s1_1, .ref s2_1, .ref s3_1, .ref s4_1, .ref s5_1, .ref s6_1, .ref s7_1, .int pa_34, .int lm_34, .ref s8_1, .ref s9_1, .ref s10_1, .int z_210, .ref s11_1, .int nm_34, .ref s12_1, .ref s13_1, .ref s14_1, .int 0, .ref s15_1, .ref s16_1, .ref s17_1, .ref s18_1])) hg0 ⟨s1_1, s2_1, s3_1, s4_1, s5_1, s6_1, s7_1, pa_34, lm_34, s8_1, s9_1, s10_1, z_210, s11_1, nm_34, s12_1, s13_1, s14_1, 0, s15_1, s16_1, s17_1, s18_1, rfl, fs1_1, fs2_1, fs3_1, fs4_1, fs5_1, fs6_1, fs7_1, flm_34, fs8_1, fs9_1, fs10_1, rg_212, fs11_1, fnm_34, fs12_1, fs13_1, fs14_1, (Or.inr rfl), fs15_1, fs16_1, fs17_1, fs18_1⟩
                              have es_f_213 : va_up f_203 g0 (.inr (3, [.ref s1_1, .ref s2_1, .ref s3_1, .ref s4_1, .ref s5_1, .ref s6_1, .ref s7_1, .int pa_34, .int lm_34, .ref s8_1, .ref s9_1, .ref s10_1, .int z_210, .ref s11_1, .int nm_34, .ref s12_1, .ref s13_1, .ref s14_1, .int 0, .ref s15_1, .ref s16_1, .ref s17_1, .ref s18_1])) g0 = .inr (3, [.ref s1_1, .ref s2_1, .ref s3_1, .ref s4_1, .ref s5_1, .ref s6_1, .ref s7_1, .int pa_34, .int lm_34, .ref s8_1, .ref s9_1, .ref s10_1, .int z_210, .ref s11_1, .int nm_34, .ref s12_1, .ref s13_1, .ref s14_1, .int 0, .ref s15_1, .ref s16_1, .ref s17_1, .ref s18_1]) := va_up_self _ _ _
                              have eq_214 := (va_up_ne f_203 (.inr (3, [.ref s1_1, .ref s2_1, .ref s3_1, .ref s4_1, .ref s5_1, .ref s6_1, .ref s7_1, .int pa_34, .int lm_34, .ref s8_1, .ref s9_1, .ref s10_1, .int z_210, .ref s11_1, .int nm_34, .ref s12_1, .ref s13_1, .ref s14_1, .int 0, .ref s15_1, .ref s16_1, .ref s17_1, .ref s18_1])) (isr_ne fs2_1 hg0 (by decide))).trans eq_205
                              have eq_215 := (va_up_ne f_203 (.inr (3, [.ref s1_1, .ref s2_1, .ref s3_1, .ref s4_1, .ref s5_1, .ref s6_1, .ref s7_1, .int pa_34, .int lm_34, .ref s8_1, .ref s9_1, .ref s10_1, .int z_210, .ref s11_1, .int nm_34, .ref s12_1, .ref s13_1, .ref s14_1, .int 0, .ref s15_1, .ref s16_1, .ref s17_1, .ref s18_1])) (isr_ne fs3_1 hg0 (by decide))).trans eq_206
                              have eq_216 := (va_up_ne f_203 (.inr (3, [.ref s1_1, .ref s2_1, .ref s3_1, .ref s4_1, .ref s5_1, .ref s6_1, .ref s7_1, .int pa_34, .int lm_34, .ref s8_1, .ref s9_1, .ref s10_1, .int z_210, .ref s11_1, .int nm_34, .ref s12_1, .ref s13_1, .ref s14_1, .int 0, .ref s15_1, .ref s16_1, .ref s17_1, .ref s18_1])) (isr_ne fs11_1 hg0 (by decide))).trans es_f_203
                              have hfr := fr_up (S := (sK [10, 21, 22, 23, 24])) (e := .inr (3, [.ref s1_1, .ref s2_1, .ref s3_1, .ref s4_1, .ref s5_1, .ref s6_1, .ref s7_1, .int pa_34, .int lm_34, .ref s8_1, .ref s9_1, .ref s10_1, .int z_210, .ref s11_1, .int nm_34, .ref s12_1, .ref s13_1, .ref s14_1, .int 0, .ref s15_1, .ref s16_1, .ref s17_1, .ref s18_1])) hfr hg0 (by decide)
                              have hXL := XL.up (e := .inr (3, [.ref s1_1, .ref s2_1, .ref s3_1, .ref s4_1, .ref s5_1, .ref s6_1, .ref s7_1, .int pa_34, .int lm_34, .ref s8_1, .ref s9_1, .ref s10_1, .int z_210, .ref s11_1, .int nm_34, .ref s12_1, .ref s13_1, .ref s14_1, .int 0, .ref s15_1, .ref s16_1, .ref s17_1, .ref s18_1])) hXL hg0 (by decide) (by decide)
                              have hKP := hKP.put eq_204 es_f_213 ⟨rfl, rfl⟩
                              generalize va_up f_203 g0 (.inr (3, [.ref s1_1, .ref s2_1, .ref s3_1, .ref s4_1, .ref s5_1, .ref s6_1, .ref s7_1, .int pa_34, .int lm_34, .ref s8_1, .ref s9_1, .ref s10_1, .int z_210, .ref s11_1, .int nm_34, .ref s12_1, .ref s13_1, .ref s14_1, .int 0, .ref s15_1, .ref s16_1, .ref s17_1, .ref s18_1])) = f_213 at hP hD hPI es_f_213 eq_214 eq_215 eq_216 hfr hXL hKP
                              obtain ⟨i_217, ei_217⟩ : ∃ y : Int32, y = i4 + 1 := ⟨_, rfl⟩
                              refine lv_iinc (v := i_217) (lv' := [(4, .int i_217), (5, .int z_48), (3, .int z_33), (2, .int i2), (0, .ref g0), (1, .int o0)]) hx hb dX3_find_188 hl (k := 1) rfl (by rw [ei_217]; rfl) (by decide) rfl (fun ls hl => ?_)
                              have ki_217 := inc_toInt ei_217 (by omega)
                              refine lv_goto (tgt := 50) hx hb dX3_find_191 (by decide) ?_
                              exact ih_50 i_217 f_213 _ _ _  (by omega) (by omega) ⟨hfr, ⟨hXL, hKP, (congrArg (vAt · 14) es_f_213).trans hnm_35⟩⟩ hPI hP hD hS (lv_sub hl [0, 2, 3, 4, 5] rfl)
                            · have c_209 := mt Int32.le_iff_toInt_le.mpr c_209
                              refine lv_iconst (v := 1) hx hb dX3_find_179 (by decide) ?_
                              refine lv_goto (tgt := 184) hx hb dX3_find_180 (by decide) ?_
                              refine lv_iadd hx hb dX3_find_184 ?_
                              refine lv_topi (fun z_218 ez_218 => ?_)
                              have kz_218 := add_toInt ez_218 (by omega) (by omega)
                              obtain ⟨k_219, hk_219⟩ := va_plg hg0.1 eq_204
                              have hD9 := hD
                              have rg_220 : 0 ≤ Int32.toInt z_218 ∧ Int32.toInt z_218 ≤ 24 := by constructor <;> omega
                              refine va_put (D := (dC, dI)) (ci := 3) (v := .int z_218) (ty := .int) (C := RX3) (T := TX3) (N := 23) hx hb hts iX3_ tyX3 tyX3_ok nmX3 hown hK hP hD hS k_219 hk_219 rfl 12 (by decide) (hts (.fieldLink RX3 167 "FieldLeavesModel" "foundMany" "I") (by decide +kernel)) (fun _ h9 => h9) rfl (by decide +kernel) rfl rfl (Nat.le_of_ble_eq_true rfl) dX3_find_185 (fun H locs hP hD hS => ?_)
                              have hP : va_P (dC, dI) vwCl (va_pl L (va_up f_203 g0 (.inr (3, [.ref s1_1, .ref s2_1, .ref s3_1, .ref s4_1, .ref s5_1, .ref s6_1, .ref s7_1, .int pa_34, .int lm_34, .ref s8_1, .ref s9_1, .ref s10_1, .int z_218, .ref s11_1, .int nm_34, .ref s12_1, .ref s13_1, .ref s14_1, .int 0, .ref s15_1, .ref s16_1, .ref s17_1, .ref s18_1])))) H := by rw [← va_pls hD9 hg0.1 hk_219 _]; exact hP
                              have hD : va_D A (va_pl L (va_up f_203 g0 (.inr (3, [.ref s1_1, .ref s2_1, .ref s3_1, .ref s4_1, .ref s5_1, .ref s6_1, .ref s7_1, .int pa_34, .int lm_34, .ref s8_1, .ref s9_1, .ref s10_1, .int z_218, .ref s11_1, .int nm_34, .ref s12_1, .ref s13_1, .ref s14_1, .int 0, .ref s15_1, .ref s16_1, .ref s17_1, .ref s18_1])))) := by rw [← va_pls hD9 hg0.1 hk_219 _]; exact hD
                              have hPI := hPI.put (e := .inr (3, [.ref s1_1, .ref s2_1, .ref s3_1, .ref s4_1, .ref s5_1, .ref s6_1, .ref s7_1, .int pa_34, .int lm_34, .ref s8_1, .ref s9_1, .ref s10_1, .int z_218, .ref s11_1, .int nm_34, .ref s12_1, .ref s13_1, .ref s14_1, .int 0, .ref s15_1, .ref s16_1, .ref s17_1, .ref s18_1])) hg0 ⟨s1_1, s2_1, s3_1, s4_1, s5_1, s6_1, s7_1, pa_34, lm_34, s8_1, s9_1, s10_1, z_218, s11_1, nm_34, s12_1, s13_1, s14_1, 0, s15_1, s16_1, s17_1, s18_1, rfl, fs1_1, fs2_1, fs3_1, fs4_1, fs5_1, fs6_1, fs7_1, flm_34, fs8_1, fs9_1, fs10_1, rg_220, fs11_1, fnm_34, fs12_1, fs13_1, fs14_1, (Or.inr rfl), fs15_1, fs16_1, fs17_1, fs18_1⟩
                              have es_f_221 : va_up f_203 g0 (.inr (3, [.ref s1_1, .ref s2_1, .ref s3_1, .ref s4_1, .ref s5_1, .ref s6_1, .ref s7_1, .int pa_34, .int lm_34, .ref s8_1, .ref s9_1, .ref s10_1, .int z_218, .ref s11_1, .int nm_34, .ref s12_1, .ref s13_1, .ref s14_1, .int 0, .ref s15_1, .ref s16_1, .ref s17_1, .ref s18_1])) g0 = .inr (3, [.ref s1_1, .ref s2_1, .ref s3_1, .ref s4_1, .ref s5_1, .ref s6_1, .ref s7_1, .int pa_34, .int lm_34, .ref s8_1, .ref s9_1, .ref s10_1, .int z_218, .ref s11_1, .int nm_34, .ref s12_1, .ref s13_1, .ref s14_1, .int 0, .ref s15_1, .ref s16_1, .ref s17_1, .ref s18_1]) := va_up_self _ _ _
                              have eq_222 := (va_up_ne f_203 (.inr (3, [.ref s1_1, .ref s2_1, .ref s3_1, .ref s4_1, .ref s5_1, .ref s6_1, .ref s7_1, .int pa_34, .int lm_34, .ref s8_1, .ref s9_1, .ref s10_1, .int z_218, .ref s11_1, .int nm_34, .ref s12_1, .ref s13_1, .ref s14_1, .int 0, .ref s15_1, .ref s16_1, .ref s17_1, .ref s18_1])) (isr_ne fs2_1 hg0 (by decide))).trans eq_205
                              have eq_223 := (va_up_ne f_203 (.inr (3, [.ref s1_1, .ref s2_1, .ref s3_1, .ref s4_1, .ref s5_1, .ref s6_1, .ref s7_1, .int pa_34, .int lm_34, .ref s8_1, .ref s9_1, .ref s10_1, .int z_218, .ref s11_1, .int nm_34, .ref s12_1, .ref s13_1, .ref s14_1, .int 0, .ref s15_1, .ref s16_1, .ref s17_1, .ref s18_1])) (isr_ne fs3_1 hg0 (by decide))).trans eq_206
                              have eq_224 := (va_up_ne f_203 (.inr (3, [.ref s1_1, .ref s2_1, .ref s3_1, .ref s4_1, .ref s5_1, .ref s6_1, .ref s7_1, .int pa_34, .int lm_34, .ref s8_1, .ref s9_1, .ref s10_1, .int z_218, .ref s11_1, .int nm_34, .ref s12_1, .ref s13_1, .ref s14_1, .int 0, .ref s15_1, .ref s16_1, .ref s17_1, .ref s18_1])) (isr_ne fs11_1 hg0 (by decide))).trans es_f_203
                              have hfr := fr_up (S := (sK [10, 21, 22, 23, 24])) (e := .inr (3, [.ref s1_1, .ref s2_1, .ref s3_1, .ref s4_1, .ref s5_1, .ref s6_1, .ref s7_1, .int pa_34, .int lm_34, .ref s8_1, .ref s9_1, .ref s10_1, .int z_218, .ref s11_1, .int nm_34, .ref s12_1, .ref s13_1, .ref s14_1, .int 0, .ref s15_1, .ref s16_1, .ref s17_1, .ref s18_1])) hfr hg0 (by decide)
                              have hXL := XL.up (e := .inr (3, [.ref s1_1, .ref s2_1, .ref s3_1, .ref s4_1, .ref s5_1, .ref s6_1, .ref s7_1, .int pa_34, .int lm_34, .ref s8_1, .ref s9_1, .ref s10_1, .int z_218, .ref s11_1, .int nm_34, .ref s12_1, .ref s13_1, .ref s14_1, .int 0, .ref s15_1, .ref s16_1, .ref s17_1, .ref s18_1])) hXL hg0 (by decide) (by decide)
                              have hKP := hKP.put eq_204 es_f_221 ⟨rfl, rfl⟩
                              generalize va_up f_203 g0 (.inr (3, [.ref s1_1, .ref s2_1, .ref s3_1, .ref s4_1, .ref s5_1, .ref s6_1, .ref s7_1, .int pa_34, .int lm_34, .ref s8_1, .ref s9_1, .ref s10_1, .int z_218, .ref s11_1, .int nm_34, .ref s12_1, .ref s13_1, .ref s14_1, .int 0, .ref s15_1, .ref s16_1, .ref s17_1, .ref s18_1])) = f_221 at hP hD hPI es_f_221 eq_222 eq_223 eq_224 hfr hXL hKP
                              obtain ⟨i_225, ei_225⟩ : ∃ y : Int32, y = i4 + 1 := ⟨_, rfl⟩
                              refine lv_iinc (v := i_225) (lv' := [(4, .int i_225), (5, .int z_48), (3, .int z_33), (2, .int i2), (0, .ref g0), (1, .int o0)]) hx hb dX3_find_188 hl (k := 1) rfl (by rw [ei_225]; rfl) (by decide) rfl (fun ls hl => ?_)
                              have ki_225 := inc_toInt ei_225 (by omega)
                              refine lv_goto (tgt := 50) hx hb dX3_find_191 (by decide) ?_
                              exact ih_50 i_225 f_221 _ _ _  (by omega) (by omega) ⟨hfr, ⟨hXL, hKP, (congrArg (vAt · 14) es_f_221).trans hnm_35⟩⟩ hPI hP hD hS (lv_sub hl [0, 2, 3, 4, 5] rfl)
                  · refine lv_if_eq (tgt := 95) hx hb dX3_find_76 (by decide) (fun _ => ?_) (fun c9 => absurd c9 (by decide))
                    refine lv_iconst (v := (-1)) hx hb dX3_find_95 (by decide) ?_
                    refine lv_istore (lv' := [(5, .int (-1)), (4, .int i4), (3, .int z_33), (2, .int i2), (0, .ref g0), (1, .int o0)]) hx hb dX3_find_96 hl (by decide) rfl (fun ls hl => ?_)
                    refine lv_iload hx hb dX3_find_98 (lv_at hl 0 rfl) ?_
                    refine lv_iconst (v := (-1)) hx hb dX3_find_100 (by decide) ?_
                    refine lv_icmp_eq (tgt := 188) hx hb dX3_find_101 (by decide) (fun _ => ?_) (fun c9 => absurd c9 (by decide))
                    obtain ⟨i_226, ei_226⟩ : ∃ y : Int32, y = i4 + 1 := ⟨_, rfl⟩
                    refine lv_iinc (v := i_226) (lv' := [(4, .int i_226), (5, .int (-1)), (3, .int z_33), (2, .int i2), (0, .ref g0), (1, .int o0)]) hx hb dX3_find_188 hl (k := 1) rfl (by rw [ei_226]; rfl) (by decide) rfl (fun ls hl => ?_)
                    have ki_226 := inc_toInt ei_226 (by omega)
                    refine lv_goto (tgt := 50) hx hb dX3_find_191 (by decide) ?_
                    exact ih_50 i_226 fl50 _ _ _  (by omega) (by omega) ⟨hfr, ⟨hXL, hKP, (congrArg (vAt · 14) e_34).trans hnm_35⟩⟩ hPI hP hD hS (lv_sub hl [0, 2, 3, 4, 5] rfl)
                · refine lv_if_eq (tgt := 95) hx hb dX3_find_62 (by decide) (fun _ => ?_) (fun c9 => absurd c9 (by decide))
                  refine lv_iconst (v := (-1)) hx hb dX3_find_95 (by decide) ?_
                  refine lv_istore (lv' := [(5, .int (-1)), (4, .int i4), (3, .int z_33), (2, .int i2), (0, .ref g0), (1, .int o0)]) hx hb dX3_find_96 hl (by decide) rfl (fun ls hl => ?_)
                  refine lv_iload hx hb dX3_find_98 (lv_at hl 0 rfl) ?_
                  refine lv_iconst (v := (-1)) hx hb dX3_find_100 (by decide) ?_
                  refine lv_icmp_eq (tgt := 188) hx hb dX3_find_101 (by decide) (fun _ => ?_) (fun c9 => absurd c9 (by decide))
                  obtain ⟨i_227, ei_227⟩ : ∃ y : Int32, y = i4 + 1 := ⟨_, rfl⟩
                  refine lv_iinc (v := i_227) (lv' := [(4, .int i_227), (5, .int (-1)), (3, .int z_33), (2, .int i2), (0, .ref g0), (1, .int o0)]) hx hb dX3_find_188 hl (k := 1) rfl (by rw [ei_227]; rfl) (by decide) rfl (fun ls hl => ?_)
                  have ki_227 := inc_toInt ei_227 (by omega)
                  refine lv_goto (tgt := 50) hx hb dX3_find_191 (by decide) ?_
                  exact ih_50 i_227 fl50 _ _ _  (by omega) (by omega) ⟨hfr, ⟨hXL, hKP, (congrArg (vAt · 14) e_34).trans hnm_35⟩⟩ hPI hP hD hS (lv_sub hl [0, 2, 3, 4, 5] rfl)
          exact loop_50 9 8 fl _ _ _  (by omega) (by omega) ⟨FR.rf, ⟨hXL, hKP, (congrArg (vAt · 14) e_15).trans hnm_16⟩⟩ hPI hP hD hS hl
        · refine lv_if_eq (tgt := 200) hx hb dX3_find_36 (by decide) (fun _ => ?_) (fun c9 => absurd c9 (by decide))
          refine lv_iconst (v := 0) hx hb dX3_find_200 (by decide) ?_
          refine lv_istore_n (lv' := [(2, .int 0), (0, .ref g0), (1, .int o0)]) hx hb dX3_find_201 rfl hl (by decide) rfl (fun ls hl => ?_)
          have hfrE202 := hfr
          have loop_202 : ∀ (n : Nat) (j2 : Int32)   (fl202 : Nat → va_E) (H : Heap) (locs : List Loc) (ls : Array Slot), (0 ≤ j2.toInt ∧ j2.toInt ≤ 24) → (24 - j2.toInt).toNat < n → (FR (sK [10, 21, 22, 23, 24]) K L fl fl202 ∧ (XN kI kJ K L f g0 j2.toInt fl202)) → PR kI kJ kZ K L fl202 → va_P (dC, dI) vwCl (va_pl L fl202) H → va_D A (va_pl L fl202) → va_S A s.heap H locs → lv_has ls 6 [(2, .int j2), (0, .ref g0), (1, .int o0)] → W p l e (headSpec wsX3_find ({ frames := 2, cells := 0, slots := 0, locals := 50 } : Room)).room s m (([.ref g0, .int o0] : List Value).toArray) below meth c H locs 0 0 Q0 (F0 m 202 ls []) := by
            intro n
            induction n with
            | zero => intro j2 fl202 H locs ls  _ h9; exact absurd h9 (Nat.not_lt_zero _)
            | succ n ih_202 =>
              intro j2 fl202 H locs ls  hI hM hFN hPI hP hD hS hl
              obtain ⟨hfr, hFN⟩ := hFN
              have hXN := hFN
              refine lv_iload_n hx hb dX3_find_202 rfl (lv_at hl 0 rfl) ?_
              refine lv_aload_n hx hb dX3_find_203 rfl (lv_at hl 1 rfl) ?_
              obtain ⟨s1_228, s2_228, s3_228, s4_228, s5_228, s6_228, s7_228, pa_228, lm_228, s8_228, s9_228, s10_228, fm_228, s11_228, nm_228, s12_228, s13_228, s14_228, rm_228, s15_228, s16_228, s17_228, s18_228, e_228, fs1_228, fs2_228, fs3_228, fs4_228, fs5_228, fs6_228, fs7_228, flm_228, fs8_228, fs9_228, fs10_228, ffm_228, fs11_228, fnm_228, fs12_228, fs13_228, fs14_228, frm_228, fs15_228, fs16_228, fs17_228, fs18_228⟩ := hPI.a10 hg0
              obtain ⟨k_228, hk_228⟩ := va_plg hg0.1 e_228
              obtain rfl : s1_1 = s1_228 := hU _ _ fs1_1.1 fs1_228.1 (fs1_1.2.trans fs1_228.2.symm)
              obtain rfl : s2_1 = s2_228 := hU _ _ fs2_1.1 fs2_228.1 (fs2_1.2.trans fs2_228.2.symm)
              obtain rfl : s3_1 = s3_228 := hU _ _ fs3_1.1 fs3_228.1 (fs3_1.2.trans fs3_228.2.symm)
              obtain rfl : s4_1 = s4_228 := hU _ _ fs4_1.1 fs4_228.1 (fs4_1.2.trans fs4_228.2.symm)
              obtain rfl : s5_1 = s5_228 := hU _ _ fs5_1.1 fs5_228.1 (fs5_1.2.trans fs5_228.2.symm)
              obtain rfl : s6_1 = s6_228 := hU _ _ fs6_1.1 fs6_228.1 (fs6_1.2.trans fs6_228.2.symm)
              obtain rfl : s7_1 = s7_228 := hU _ _ fs7_1.1 fs7_228.1 (fs7_1.2.trans fs7_228.2.symm)
              obtain rfl : s8_1 = s8_228 := hU _ _ fs8_1.1 fs8_228.1 (fs8_1.2.trans fs8_228.2.symm)
              obtain rfl : s9_1 = s9_228 := hU _ _ fs9_1.1 fs9_228.1 (fs9_1.2.trans fs9_228.2.symm)
              obtain rfl : s10_1 = s10_228 := hU _ _ fs10_1.1 fs10_228.1 (fs10_1.2.trans fs10_228.2.symm)
              obtain rfl : s11_1 = s11_228 := hU _ _ fs11_1.1 fs11_228.1 (fs11_1.2.trans fs11_228.2.symm)
              obtain rfl : s12_1 = s12_228 := hU _ _ fs12_1.1 fs12_228.1 (fs12_1.2.trans fs12_228.2.symm)
              obtain rfl : s13_1 = s13_228 := hU _ _ fs13_1.1 fs13_228.1 (fs13_1.2.trans fs13_228.2.symm)
              obtain rfl : s14_1 = s14_228 := hU _ _ fs14_1.1 fs14_228.1 (fs14_1.2.trans fs14_228.2.symm)
              obtain rfl : s15_1 = s15_228 := hU _ _ fs15_1.1 fs15_228.1 (fs15_1.2.trans fs15_228.2.symm)
              obtain rfl : s16_1 = s16_228 := hU _ _ fs16_1.1 fs16_228.1 (fs16_1.2.trans fs16_228.2.symm)
              obtain rfl : s17_1 = s17_228 := hU _ _ fs17_1.1 fs17_228.1 (fs17_1.2.trans fs17_228.2.symm)
              obtain rfl : s18_1 = s18_228 := hU _ _ fs18_1.1 fs18_228.1 (fs18_1.2.trans fs18_228.2.symm)
              refine va_get (D := (dC, dI)) (ci := 3) (v := .int fm_228) (C := RX3) (T := TX3) (N := 23) hx hb hts iX3_ hown hK hP k_228 hk_228 rfl 12 (by decide) (hts (.fieldLink RX3 167 "FieldLeavesModel" "foundMany" "I") (by decide +kernel)) (fun _ h9 => h9) rfl dX3_find_204 ?_
              refine lv_icmp_ge (tgt := 234) hx hb dX3_find_207 (by decide) (fun c_229 => ?_) (fun c_229 => ?_)
              · have c_229 := Int32.le_iff_toInt_le.mp c_229
                refine lv_aload_n hx hb dX3_find_234 rfl (lv_at hl 1 rfl) ?_
                obtain ⟨k_230, hk_230⟩ := va_plg hg0.1 e_228
                refine va_get (D := (dC, dI)) (ci := 3) (v := .int rm_228) (C := RX3) (T := TX3) (N := 23) hx hb hts iX3_ hown hK hP k_230 hk_230 rfl 18 (by decide) (hts (.fieldLink RX3 163 "FieldLeavesModel" "isRoom" "Z") (by decide +kernel)) (fun _ h9 => h9) rfl dX3_find_235 ?_
                rcases frm_228 with rfl | rfl
                · subst eQ
                  exact W.zret (v := 1) hx hb hr rfl (fun t ht hW => ⟨⟨1, (), rfl, Or.inl rfl, fl202, hPI, ⟨(FR.tr hfrE24 (FR.tr hfrE202 hfr (fun _ h => h)) (fun _ h => h)), hXN.1, hXN.2.1.2, hXN.2.2⟩, by rw [ht]; exact hP, hD⟩, hS.F ht⟩) hS.2.2 dX3_find_238
                · subst eQ
                  exact W.zret (v := 0) hx hb hr rfl (fun t ht hW => ⟨⟨0, (), rfl, Or.inr rfl, fl202, hPI, ⟨(FR.tr hfrE24 (FR.tr hfrE202 hfr (fun _ h => h)) (fun _ h => h)), hXN.1, hXN.2.1.2, hXN.2.2⟩, by rw [ht]; exact hP, hD⟩, hS.F ht⟩) hS.2.2 dX3_find_238
              · have c_229 := mt Int32.le_iff_toInt_le.mpr c_229
                refine lv_aload_n hx hb dX3_find_210 rfl (lv_at hl 1 rfl) ?_
                obtain ⟨k_231, hk_231⟩ := va_plg hg0.1 e_228
                refine va_get (D := (dC, dI)) (ci := 3) (v := .int rm_228) (C := RX3) (T := TX3) (N := 23) hx hb hts iX3_ hown hK hP k_231 hk_231 rfl 18 (by decide) (hts (.fieldLink RX3 163 "FieldLeavesModel" "isRoom" "Z") (by decide +kernel)) (fun _ h9 => h9) rfl dX3_find_211 ?_
                rcases frm_228 with rfl | rfl
                · refine lv_if_eq (tgt := 234) hx hb dX3_find_214 (by decide) (fun c9 => absurd c9 (by decide)) (fun _ => ?_)
                  refine lv_aload_n hx hb dX3_find_217 rfl (lv_at hl 1 rfl) ?_
                  refine lv_iload_n hx hb dX3_find_218 rfl (lv_at hl 0 rfl) ?_
                  refine lv_aload_n hx hb dX3_find_219 rfl (lv_at hl 1 rfl) ?_
                  obtain ⟨k_232, hk_232⟩ := va_plg hg0.1 e_228
                  refine va_get (D := (dC, dI)) (ci := 3) (v := .ref s11_1) (C := RX3) (T := TX3) (N := 23) hx hb hts iX3_ hown hK hP k_232 hk_232 rfl 13 (by decide) (hts (.fieldLink RX3 44 "FieldLeavesModel" "found" "[I") (by decide +kernel)) (fun _ h9 => h9) rfl dX3_find_220 ?_
                  refine lv_iload_n hx hb dX3_find_223 rfl (lv_at hl 0 rfl) ?_
                  obtain ⟨g_233, e_233, fg_233⟩ := hPI.a21 fs11_1
                  obtain ⟨k_233, hk_233⟩ := va_plg fs11_1.1 e_233
                  have h_233 : vp_in j2 25 := (vp_in_iff.mpr (by constructor <;> omega))
                  refine va_iald hx hb hK hP k_233 0 hk_233 rfl h_233 dX3_find_224 ?_
                  refine lv_topi (fun z_233 ez_233 => ?_)
                  have fz_233 := fg_233 _ (vp_lt h_233)
                  rw [← ez_233] at fz_233
                  have hFc := pl_free hD hS hA
                  obtain ⟨k_234, hk_234⟩ := va_plg hg0.1 e_228
                  refine va_callv (va_runV (b := g0) (As := [.int j2, .int z_233]) (rest := []) ⟨hx, hb, hml, hown, hts⟩ (n_X3_tellObject l dC dI TT H.size kI kJ kZ K L fl202 hPI g0 hg0 j2 z_233 (by constructor <;> omega) (by constructor <;> omega) hU f hXN) (cwV 2 hts gX3_find_X3_tellObject rfl rfl rfl (by decide +kernel) ⟨Nat.le_of_ble_eq_true rfl, Nat.le_of_ble_eq_true rfl⟩) ⟨pr_blind, va_recv hK hP (ci := 3) rfl hk_234, (pr_S (ws := va_pl L fl202) (wA := va_pl L fl202) (tys := [(kI, .int), (kJ, .long), (kZ, .boolean)]) hP hK (hD.weaken (fun _ _ _ _ => trivial)) hst hS hFc).2⟩ rfl rfl hl.1 rfl (lv_room (Nat.le_of_ble_eq_true rfl)) dX3_find_225 ⟨Nat.le_of_ble_eq_true rfl, Nat.le_of_ble_eq_true rfl⟩) hS (fun q _ h => hFc q h) hFc (fun u t H1 locs ht hvm hw hB hz1 hk1 hS => ?_)
                  obtain ⟨f_236, hPI, hrel, hP, hD9⟩ := hB
                  rw [ht] at hP
                  have hD := hD9.weaken (fun _ q _ h => hFc q.1 h)
                  obtain ⟨hrelF, hrel⟩ := hrel
                  have eq_237 := (hrelF s11_1 fs11_1.1 (by rw [fs11_1.2]; rfl)).trans e_233
                  have hfr := FR.tr hfr hrelF (sK_sub (by decide))
                  generalize H1 = H at hP hS ⊢
                  have hXN := hrel
                  obtain ⟨i_238, ei_238⟩ : ∃ y : Int32, y = j2 + 1 := ⟨_, rfl⟩
                  refine lv_iinc (v := i_238) (lv' := [(2, .int i_238), (0, .ref g0), (1, .int o0)]) hx hb dX3_find_228 hl (k := 0) rfl (by rw [ei_238]; rfl) (by decide) rfl (fun ls hl => ?_)
                  have ki_238 := inc_toInt ei_238 (by omega)
                  refine lv_goto (tgt := 202) hx hb dX3_find_231 (by decide) ?_
                  exact ih_202 i_238 f_236 _ _ _  (by omega) (by omega) ⟨hfr, XN.up hXN (by omega)⟩ hPI hP hD hS (lv_sub hl [0, 1, 2] rfl)
                · refine lv_if_eq (tgt := 234) hx hb dX3_find_214 (by decide) (fun _ => ?_) (fun c9 => absurd c9 (by decide))
                  refine lv_aload_n hx hb dX3_find_234 rfl (lv_at hl 1 rfl) ?_
                  obtain ⟨k_239, hk_239⟩ := va_plg hg0.1 e_228
                  refine va_get (D := (dC, dI)) (ci := 3) (v := .int 0) (C := RX3) (T := TX3) (N := 23) hx hb hts iX3_ hown hK hP k_239 hk_239 rfl 18 (by decide) (hts (.fieldLink RX3 163 "FieldLeavesModel" "isRoom" "Z") (by decide +kernel)) (fun _ h9 => h9) rfl dX3_find_235 ?_
                  subst eQ
                  exact W.zret (v := 0) hx hb hr rfl (fun t ht hW => ⟨⟨0, (), rfl, Or.inr rfl, fl202, hPI, ⟨(FR.tr hfrE24 (FR.tr hfrE202 hfr (fun _ h => h)) (fun _ h => h)), hXN.1, hXN.2.1.2, hXN.2.2⟩, by rw [ht]; exact hP, hD⟩, hS.F ht⟩) hS.2.2 dX3_find_238
          exact loop_202 25 0 fl _ _ _  (by omega) (by omega) ⟨FR.rf, XN.zero hU hg0 hXL ((congrArg (vAt · 14) e_15).trans hnm_16) hKP⟩ hPI hP hD hS hl
  exact loop_24 25 0 f_13 _ _ _  (by omega) (by omega) ⟨FR.rf, ⟨hXL, hKP, (congrArg (vAt · 14) es_f_13).trans k0_⟩⟩ hPI hP hD hS hl
