section FINDR
variable {g : Nat → Int32} {l : List Nat} {o fc to r : Int32} {t : Nat}
theorem rf_one : ∀ i t, ([Int32.toNatClampNeg o] : List Nat)[i]? = some t → some (Int32.toNatClampNeg (upd g (Int32.toNatClampNeg 0) o i)) = some t := fun i t e => by
  have e0 : Int32.toNatClampNeg 0 = 0 := by decide
  rw [e0]
  cases i with
  | zero => rw [pk_us]; exact e
  | succ i => simp at e
theorem rf_push (hl : fc.toInt = (l.length : Int)) (h : ∀ i t, l[i]? = some t → some (Int32.toNatClampNeg (g i)) = some t) : ∀ i t, (l ++ [Int32.toNatClampNeg to])[i]? = some t → some (Int32.toNatClampNeg (upd g (Int32.toNatClampNeg fc) to i)) = some t := fun i t e => by
  have hc := clamp_int (i := fc) (by omega)
  have hk : Int32.toNatClampNeg fc = l.length := by omega
  rw [hk]
  rcases Nat.lt_trichotomy i l.length with hi | hi | hi
  · rw [List.getElem?_append_left hi] at e
    rw [pk_un (by omega)]
    exact h i t e
  · subst hi
    rw [List.getElem?_append_right (Nat.le_refl _), Nat.sub_self] at e
    rw [pk_us]
    exact e
  · rw [List.getElem?_eq_none (by simp; omega)] at e
    cases e
theorem nbr_mem (h : r = nbr (-4) l t) (hl : l.length ≤ 24) : r.toInt = -4 ↔ t ∉ l := by
  have k4 : Int32.toInt (-4) = -4 := by decide
  have h1 := nbr_in (no := -4) (l := l) (x0 := t) hl (by omega)
  rw [← h] at h1
  constructor
  · intro h2 h3
    have := h1.mpr h3
    omega
  · intro h2
    rw [h]
    unfold nbr
    rw [if_neg h2]
    exact k4
theorem sq_step {N : Nat → Int → Option Nat} {l : List Nat} {o : Nat} {i i2 : Int32} (h8 : 8 ≤ i.toInt) (e : i2.toInt = i.toInt + 1) : sq N l o (i2.toInt - 8).toNat = ad (sq N l o (i.toInt - 8).toNat) (N o i.toInt) := by
  have e1 : (i2.toInt - 8).toNat = (i.toInt - 8).toNat + 1 := by omega
  rw [e1]
  show ad _ (N o (8 + ((i.toInt - 8).toNat : Int))) = _
  rw [show (8 + ((i.toInt - 8).toNat : Int)) = i.toInt by omega]
theorem r_lk_val {fC : Nat → Int32} {fF : Nat → Int64} {o : Nat} {w to : Int32} {v : Int64} (hl : w.toInt = 8 ∨ w.toInt = 11 ∨ w.toInt = 15) (hh : hs (fC o).toInt w.toInt = true) (ev : v = fF (17 * o + Int32.toNatClampNeg w)) (h : ¬ v.toInt = -1) (ht : v.toInt.toNat = Int32.toNatClampNeg to) : r_lk fC fF o w.toInt = some (Int32.toNatClampNeg to) := by
  rw [r_lk_of hl hh, show w.toInt.toNat = Int32.toNatClampNeg w from rfl, ← ev, if_neg h, ht]
theorem r_lk_nov {fC : Nat → Int32} {fF : Nat → Int64} {o : Nat} {w : Int32} {v : Int64} (ev : v = fF (17 * o + Int32.toNatClampNeg w)) (h : v.toInt = -1) : r_lk fC fF o w.toInt = none := by
  unfold r_lk
  refine if_neg (fun q => q.2.2 ?_)
  rw [show w.toInt.toNat = Int32.toNatClampNeg w from rfl, ← ev]
  exact h
theorem r_lk_noh {fC : Nat → Int32} {fF : Nat → Int64} {o : Nat} {w : Int} (h : ¬ hs (fC o).toInt w = true) : r_lk fC fF o w = none := if_neg (fun q => h q.2.1)
theorem getD_is {l : List Nat} {i t : Nat} (h : l[i]? = some t) : l.getD i 0 = t := by
  rw [List.getD_eq_getElem?_getD, h]
  rfl
end FINDR
set_option maxRecDepth 20000 in
theorem in_v_X3_find_X3 : ∀ w ∈ u_ws RX3 TX3 23, w ∈ wsX3_find := by decide +kernel
set_option maxRecDepth 100000 in
set_option maxHeartbeats 4000000 in
theorem v_X3_find (l : Launch) (dC : Nat → ClassId) (dI : Nat → Nat → Nat) (TT : Nat × Nat × Nat) (sz : Nat) (kI kJ kZ : ClassId) (K : Nat → Nat) (L : List Nat) (f : Nat → va_E) (hPI : PR kI kJ kZ K L f) (g0 : Nat) (hg0 : isr K L 10 g0) (o0 : Int32) (ho0 : 0 ≤ o0.toInt ∧ o0.toInt < 6400) (hU : UN K L) (fS fC : Nat → Int32) (fF : Nat → Int64) (fR fW lo ld : Nat → Int32) (lv : Nat → Int64) (lm pa : Int32) (hRV : RV kI kJ K L f g0 fS fC fF fR fW lo ld lv lm pa) : Met l yX3_find wsX3_find ({ frames := 2, cells := 0, slots := 0, locals := 50 } : Room) (va_Pc [.ref g0, .int o0] (pr dC dI (va_pl L f) (va_pl L f) [(kI, .int), (kJ, .long), (kZ, .boolean)] sz TT)) (va_Qi (fun (r : Int32) (u : Unit) => (r = 1 ∧ ¬ tlS (-4) fC (r_vl fC fF) (r_lk fC fF) (r_rw fC fR fW) (Int32.toNatClampNeg o0) = none) ∨ (r = 0 ∧ tlS (-4) fC (r_vl fC fF) (r_lk fC fF) (r_rw fC fR fW) (Int32.toNatClampNeg o0) = none)) (fun (_ : Unit) t => ∃ f2 : Nat → va_E, PR kI kJ kZ K L f2 ∧ (FR (sK [10, 21, 22, 23, 24]) K L f f2 ∧ (KQ2 f f2 g0 ∧ ∀ lz, tlS (-4) fC (r_vl fC fF) (r_lk fC fF) (r_rw fC fR fW) (Int32.toNatClampNeg o0) = some lz → NLr kI kJ K L f2 g0 lz)) ∧ va_P (dC, dI) vwCl (va_pl L f2) t.heap ∧ va_D (va_A (va_pl L f) sz) (va_pl L f2)) (va_A (va_pl L f) sz)) 0 0 (va_A (va_pl L f) sz) := by
  refine Met.ofW (cc := cX3_find) (maxL := 6) (ret := (some .boolean)) (by decide) rfl ?_
  intro p e s m args below meth c s₁ B hml hv
  obtain ⟨rfl, hsz, hP, hK, hD0, hst⟩ := hv
  have hx := B.exec
  have hb := B.bytes
  have hr := B.returns
  have hts := atoms_spec (ws := wsX3_find) B.pre
  have hown : s.vm.findClass RX3 = some m.cls := findClass_of_methodNamed B.named
  have hlocks := B.notSynchronized
  have iX3_ := in_v_X3_find_X3
  subst hsz
  have hD := hD0.self (sz := s.heap.size)
  generalize hAe : va_A (va_pl L f) s.heap.size = A at hD hst ⊢
  have hA : ∀ q : Nat, s.heap.size ≤ q → A q := fun q h => by rw [← hAe]; exact Or.inr h
  have hS : va_S A s.heap s.heap [] := va_S.rf
  have hl := lv_entry ([.ref g0, .int o0]) (n := 6) (Nat.le_of_ble_eq_true rfl)
  rw [lg_entry_eq]
  generalize (lg_sl ([.ref g0, .int o0]) ++ List.replicate (6 - (lg_sl ([.ref g0, .int o0])).length) Slot.unset).toArray = ls at hl ⊢
  have hl : lv_has ls 6 [(0, .ref g0), (1, .int o0)] := hl
  have km4_ : Int32.toInt (-4) = -4 := by decide
  have km1_ : Int32.toInt (-1) = -1 := by decide
  have k0_ : Int32.toInt 0 = 0 := by decide
  have k1_ : Int32.toInt 1 = 1 := by decide
  have k8_ : Int32.toInt 8 = 8 := by decide
  have k16_ : Int32.toInt 16 = 16 := by decide
  have k24_ : Int32.toInt 24 = 24 := by decide
  have hfr : FR (sK [10, 21, 22, 23, 24]) K L f f := FR.rf
  have cl_0 : Int32.toNatClampNeg 0 = 0 := by decide
  refine W_nameQ (fun Q0 eQ => ?_)
  (refine hPI.a10E hg0 ?_; intro s1_1 s2_1 s3_1 s4_1 s5_1 s6_1 s7_1 pa_1 lm_1 s8_1 s9_1 s10_1 fm_1 s11_1 nm_1 s12_1 s13_1 s14_1 rm_1 s15_1 s16_1 s17_1 s18_1 e_1 fs1_1 fs2_1 fs3_1 fs4_1 fs5_1 fs6_1 fs7_1 flm_1 fs8_1 fs9_1 fs10_1 ffm_1 fs11_1 fnm_1 fs12_1 fs13_1 fs14_1 frm_1 fs15_1 fs16_1 fs17_1 fs18_1)
  obtain ⟨k_1, hk_1⟩ := va_plg hg0.1 e_1
  have eg11 := hRV.1.1 s1_1 fs1_1
  have fg11 := (hPI.a11 fs1_1).of eg11
  have eg12 := hRV.1.2.1 s2_1 fs2_1
  have fg12 := (hPI.a12 fs2_1).of eg12
  have eg13 := hRV.1.2.2 s3_1 fs3_1
  have fg13 := (hPI.a13 fs3_1).of eg13
  have eg14 := hRV.2.1.1 s4_1 fs4_1
  have fg14 := (hPI.a14 fs4_1).of eg14
  have eg15 := hRV.2.1.2 s5_1 fs5_1
  have fg15 := (hPI.a15 fs5_1).of eg15
  have eg18 := hRV.2.2.1.1 s8_1 fs8_1
  have fg18 := (hPI.a18 fs8_1).of eg18
  have eg19 := hRV.2.2.1.2.1 s9_1 fs9_1
  have fg19 := (hPI.a19 fs9_1).of eg19
  have eg20 := hRV.2.2.1.2.2 s10_1 fs10_1
  have fg20 := (hPI.a20 fs10_1).of eg20
  obtain rfl : lm_1 = lm := (show cI (f g0) 8 = _ from by rw [e_1]; rfl).symm.trans hRV.2.2.2.1
  obtain rfl : pa_1 = pa := (show cI (f g0) 7 = _ from by rw [e_1]; rfl).symm.trans hRV.2.2.2.2
  have hk7 : pa_1 = cI (f g0) 7 := by rw [e_1]; rfl
  have hk8 : lm_1 = cI (f g0) 8 := by rw [e_1]; rfl
  refine lv_aload_n hx hb dX3_find_0 rfl (lv_at hl 0 rfl) ?_
  refine lv_iconst (v := 1) hx hb dX3_find_1 (by decide) ?_
  obtain ⟨k_2, hk_2⟩ := va_plg hg0.1 e_1
  have hD9 := hD
  have rg_3 : 0 ≤ Int32.toInt 1 ∧ Int32.toInt 1 ≤ 24 := by constructor <;> omega
  refine va_put (D := (dC, dI)) (ci := 3) (v := .int 1) (ty := .int) (C := RX3) (T := TX3) (N := 23) hx hb hts iX3_ tyX3 tyX3_ok nmX3 hown hK hP hD hS k_2 hk_2 rfl 12 (by decide) (hts (.fieldLink RX3 167 "FieldLeavesModel" "foundMany" "I") (by decide +kernel)) (fun _ h9 => h9) rfl (by decide +kernel) rfl rfl (Nat.le_of_ble_eq_true rfl) dX3_find_2 (fun H locs hP hD hS => ?_)
  have hP : va_P (dC, dI) vwCl (va_pl L (va_up f g0 (.inr (3, [.ref s1_1, .ref s2_1, .ref s3_1, .ref s4_1, .ref s5_1, .ref s6_1, .ref s7_1, .int pa_1, .int lm_1, .ref s8_1, .ref s9_1, .ref s10_1, .int 1, .ref s11_1, .int nm_1, .ref s12_1, .ref s13_1, .ref s14_1, .int rm_1, .ref s15_1, .ref s16_1, .ref s17_1, .ref s18_1])))) H := by rw [← va_pls hD9 hg0.1 hk_2 _]; exact hP
  have hD : va_D A (va_pl L (va_up f g0 (.inr (3, [.ref s1_1, .ref s2_1, .ref s3_1, .ref s4_1, .ref s5_1, .ref s6_1, .ref s7_1, .int pa_1, .int lm_1, .ref s8_1, .ref s9_1, .ref s10_1, .int 1, .ref s11_1, .int nm_1, .ref s12_1, .ref s13_1, .ref s14_1, .int rm_1, .ref s15_1, .ref s16_1, .ref s17_1, .ref s18_1])))) := by rw [← va_pls hD9 hg0.1 hk_2 _]; exact hD
  have hPI := hPI.put (e := .inr (3, [.ref s1_1, .ref s2_1, .ref s3_1, .ref s4_1, .ref s5_1, .ref s6_1, .ref s7_1, .int pa_1, .int lm_1, .ref s8_1, .ref s9_1, .ref s10_1, .int 1, .ref s11_1, .int nm_1, .ref s12_1, .ref s13_1, .ref s14_1, .int rm_1, .ref s15_1, .ref s16_1, .ref s17_1, .ref s18_1])) hg0 ⟨s1_1, s2_1, s3_1, s4_1, s5_1, s6_1, s7_1, pa_1, lm_1, s8_1, s9_1, s10_1, 1, s11_1, nm_1, s12_1, s13_1, s14_1, rm_1, s15_1, s16_1, s17_1, s18_1, rfl, fs1_1, fs2_1, fs3_1, fs4_1, fs5_1, fs6_1, fs7_1, flm_1, fs8_1, fs9_1, fs10_1, rg_3, fs11_1, fnm_1, fs12_1, fs13_1, fs14_1, frm_1, fs15_1, fs16_1, fs17_1, fs18_1⟩
  have es_f_4 : va_up f g0 (.inr (3, [.ref s1_1, .ref s2_1, .ref s3_1, .ref s4_1, .ref s5_1, .ref s6_1, .ref s7_1, .int pa_1, .int lm_1, .ref s8_1, .ref s9_1, .ref s10_1, .int 1, .ref s11_1, .int nm_1, .ref s12_1, .ref s13_1, .ref s14_1, .int rm_1, .ref s15_1, .ref s16_1, .ref s17_1, .ref s18_1])) g0 = .inr (3, [.ref s1_1, .ref s2_1, .ref s3_1, .ref s4_1, .ref s5_1, .ref s6_1, .ref s7_1, .int pa_1, .int lm_1, .ref s8_1, .ref s9_1, .ref s10_1, .int 1, .ref s11_1, .int nm_1, .ref s12_1, .ref s13_1, .ref s14_1, .int rm_1, .ref s15_1, .ref s16_1, .ref s17_1, .ref s18_1]) := va_up_self _ _ _
  have eq_5 := (va_up_ne f (.inr (3, [.ref s1_1, .ref s2_1, .ref s3_1, .ref s4_1, .ref s5_1, .ref s6_1, .ref s7_1, .int pa_1, .int lm_1, .ref s8_1, .ref s9_1, .ref s10_1, .int 1, .ref s11_1, .int nm_1, .ref s12_1, .ref s13_1, .ref s14_1, .int rm_1, .ref s15_1, .ref s16_1, .ref s17_1, .ref s18_1])) (isr_ne fs1_1 hg0 (by decide))).trans eg11
  have eq_6 := (va_up_ne f (.inr (3, [.ref s1_1, .ref s2_1, .ref s3_1, .ref s4_1, .ref s5_1, .ref s6_1, .ref s7_1, .int pa_1, .int lm_1, .ref s8_1, .ref s9_1, .ref s10_1, .int 1, .ref s11_1, .int nm_1, .ref s12_1, .ref s13_1, .ref s14_1, .int rm_1, .ref s15_1, .ref s16_1, .ref s17_1, .ref s18_1])) (isr_ne fs2_1 hg0 (by decide))).trans eg12
  have eq_7 := (va_up_ne f (.inr (3, [.ref s1_1, .ref s2_1, .ref s3_1, .ref s4_1, .ref s5_1, .ref s6_1, .ref s7_1, .int pa_1, .int lm_1, .ref s8_1, .ref s9_1, .ref s10_1, .int 1, .ref s11_1, .int nm_1, .ref s12_1, .ref s13_1, .ref s14_1, .int rm_1, .ref s15_1, .ref s16_1, .ref s17_1, .ref s18_1])) (isr_ne fs3_1 hg0 (by decide))).trans eg13
  have eq_8 := (va_up_ne f (.inr (3, [.ref s1_1, .ref s2_1, .ref s3_1, .ref s4_1, .ref s5_1, .ref s6_1, .ref s7_1, .int pa_1, .int lm_1, .ref s8_1, .ref s9_1, .ref s10_1, .int 1, .ref s11_1, .int nm_1, .ref s12_1, .ref s13_1, .ref s14_1, .int rm_1, .ref s15_1, .ref s16_1, .ref s17_1, .ref s18_1])) (isr_ne fs4_1 hg0 (by decide))).trans eg14
  have eq_9 := (va_up_ne f (.inr (3, [.ref s1_1, .ref s2_1, .ref s3_1, .ref s4_1, .ref s5_1, .ref s6_1, .ref s7_1, .int pa_1, .int lm_1, .ref s8_1, .ref s9_1, .ref s10_1, .int 1, .ref s11_1, .int nm_1, .ref s12_1, .ref s13_1, .ref s14_1, .int rm_1, .ref s15_1, .ref s16_1, .ref s17_1, .ref s18_1])) (isr_ne fs5_1 hg0 (by decide))).trans eg15
  have eq_10 := (va_up_ne f (.inr (3, [.ref s1_1, .ref s2_1, .ref s3_1, .ref s4_1, .ref s5_1, .ref s6_1, .ref s7_1, .int pa_1, .int lm_1, .ref s8_1, .ref s9_1, .ref s10_1, .int 1, .ref s11_1, .int nm_1, .ref s12_1, .ref s13_1, .ref s14_1, .int rm_1, .ref s15_1, .ref s16_1, .ref s17_1, .ref s18_1])) (isr_ne fs8_1 hg0 (by decide))).trans eg18
  have eq_11 := (va_up_ne f (.inr (3, [.ref s1_1, .ref s2_1, .ref s3_1, .ref s4_1, .ref s5_1, .ref s6_1, .ref s7_1, .int pa_1, .int lm_1, .ref s8_1, .ref s9_1, .ref s10_1, .int 1, .ref s11_1, .int nm_1, .ref s12_1, .ref s13_1, .ref s14_1, .int rm_1, .ref s15_1, .ref s16_1, .ref s17_1, .ref s18_1])) (isr_ne fs9_1 hg0 (by decide))).trans eg19
  have eq_12 := (va_up_ne f (.inr (3, [.ref s1_1, .ref s2_1, .ref s3_1, .ref s4_1, .ref s5_1, .ref s6_1, .ref s7_1, .int pa_1, .int lm_1, .ref s8_1, .ref s9_1, .ref s10_1, .int 1, .ref s11_1, .int nm_1, .ref s12_1, .ref s13_1, .ref s14_1, .int rm_1, .ref s15_1, .ref s16_1, .ref s17_1, .ref s18_1])) (isr_ne fs10_1 hg0 (by decide))).trans eg20
  have hfr := fr_up (S := (sK [10, 21, 22, 23, 24])) (e := .inr (3, [.ref s1_1, .ref s2_1, .ref s3_1, .ref s4_1, .ref s5_1, .ref s6_1, .ref s7_1, .int pa_1, .int lm_1, .ref s8_1, .ref s9_1, .ref s10_1, .int 1, .ref s11_1, .int nm_1, .ref s12_1, .ref s13_1, .ref s14_1, .int rm_1, .ref s15_1, .ref s16_1, .ref s17_1, .ref s18_1])) hfr hg0 (by decide)
  generalize hg_f_4 : va_up f g0 (.inr (3, [.ref s1_1, .ref s2_1, .ref s3_1, .ref s4_1, .ref s5_1, .ref s6_1, .ref s7_1, .int pa_1, .int lm_1, .ref s8_1, .ref s9_1, .ref s10_1, .int 1, .ref s11_1, .int nm_1, .ref s12_1, .ref s13_1, .ref s14_1, .int rm_1, .ref s15_1, .ref s16_1, .ref s17_1, .ref s18_1])) = f_4 at hP hD hPI es_f_4 eq_5 eq_6 eq_7 eq_8 eq_9 eq_10 eq_11 eq_12 hfr
  refine lv_aload_n hx hb dX3_find_5 rfl (lv_at hl 0 rfl) ?_
  obtain ⟨k_13, hk_13⟩ := va_plg hg0.1 es_f_4
  refine va_get (D := (dC, dI)) (ci := 3) (v := .ref s11_1) (C := RX3) (T := TX3) (N := 23) hx hb hts iX3_ hown hK hP k_13 hk_13 rfl 13 (by decide) (hts (.fieldLink RX3 44 "FieldLeavesModel" "found" "[I") (by decide +kernel)) (fun _ h9 => h9) rfl dX3_find_6 ?_
  refine lv_iconst (v := 0) hx hb dX3_find_9 (by decide) ?_
  refine lv_iload_n hx hb dX3_find_10 rfl (lv_at hl 1 rfl) ?_
  obtain ⟨g_14, e_14, fg_14⟩ := hPI.a21 fs11_1
  obtain ⟨k_14, hk_14⟩ := va_plg fs11_1.1 e_14
  have h_14 : vp_in 0 25 := (vp_in_iff.mpr (by decide))
  have fw_14 := updS (P := fun v => 0 ≤ v.toInt ∧ v.toInt < 6400) (k := Int32.toNatClampNeg 0) (v := o0) fg_14 (by omega)
  have hD9 := hD
  refine va_iast hx hb hK hP hD hS k_14 0 hk_14 rfl h_14 dX3_find_11 (fun H locs hP hD hS => ?_)
  have hP : va_P (dC, dI) vwCl (va_pl L (va_up f_4 s11_1 (.inl (kI, 25, .inl (upd g_14 (Int32.toNatClampNeg 0) o0))))) H := by rw [← va_pls hD9 fs11_1.1 hk_14 _]; exact hP
  have hD : va_D A (va_pl L (va_up f_4 s11_1 (.inl (kI, 25, .inl (upd g_14 (Int32.toNatClampNeg 0) o0))))) := by rw [← va_pls hD9 fs11_1.1 hk_14 _]; exact hD
  have hPI := hPI.put (e := .inl (kI, 25, .inl (upd g_14 (Int32.toNatClampNeg 0) o0))) fs11_1 ⟨_, rfl, fw_14⟩
  have es_f_15 : va_up f_4 s11_1 (.inl (kI, 25, .inl (upd g_14 (Int32.toNatClampNeg 0) o0))) s11_1 = .inl (kI, 25, .inl (upd g_14 (Int32.toNatClampNeg 0) o0)) := va_up_self _ _ _
  have eq_16 := (va_up_ne f_4 (.inl (kI, 25, .inl (upd g_14 (Int32.toNatClampNeg 0) o0))) (isr_ne hg0 fs11_1 (by decide))).trans es_f_4
  have eq_17 := (va_up_ne f_4 (.inl (kI, 25, .inl (upd g_14 (Int32.toNatClampNeg 0) o0))) (isr_ne fs1_1 fs11_1 (by decide))).trans eq_5
  have eq_18 := (va_up_ne f_4 (.inl (kI, 25, .inl (upd g_14 (Int32.toNatClampNeg 0) o0))) (isr_ne fs2_1 fs11_1 (by decide))).trans eq_6
  have eq_19 := (va_up_ne f_4 (.inl (kI, 25, .inl (upd g_14 (Int32.toNatClampNeg 0) o0))) (isr_ne fs3_1 fs11_1 (by decide))).trans eq_7
  have eq_20 := (va_up_ne f_4 (.inl (kI, 25, .inl (upd g_14 (Int32.toNatClampNeg 0) o0))) (isr_ne fs4_1 fs11_1 (by decide))).trans eq_8
  have eq_21 := (va_up_ne f_4 (.inl (kI, 25, .inl (upd g_14 (Int32.toNatClampNeg 0) o0))) (isr_ne fs5_1 fs11_1 (by decide))).trans eq_9
  have eq_22 := (va_up_ne f_4 (.inl (kI, 25, .inl (upd g_14 (Int32.toNatClampNeg 0) o0))) (isr_ne fs8_1 fs11_1 (by decide))).trans eq_10
  have eq_23 := (va_up_ne f_4 (.inl (kI, 25, .inl (upd g_14 (Int32.toNatClampNeg 0) o0))) (isr_ne fs9_1 fs11_1 (by decide))).trans eq_11
  have eq_24 := (va_up_ne f_4 (.inl (kI, 25, .inl (upd g_14 (Int32.toNatClampNeg 0) o0))) (isr_ne fs10_1 fs11_1 (by decide))).trans eq_12
  have hfr := fr_up (S := (sK [10, 21, 22, 23, 24])) (e := .inl (kI, 25, .inl (upd g_14 (Int32.toNatClampNeg 0) o0))) hfr fs11_1 (by decide)
  generalize hg_f_15 : va_up f_4 s11_1 (.inl (kI, 25, .inl (upd g_14 (Int32.toNatClampNeg 0) o0))) = f_15 at hP hD hPI es_f_15 eq_16 eq_17 eq_18 eq_19 eq_20 eq_21 eq_22 eq_23 eq_24 hfr
  refine lv_aload_n hx hb dX3_find_12 rfl (lv_at hl 0 rfl) ?_
  refine lv_iconst (v := 0) hx hb dX3_find_13 (by decide) ?_
  obtain ⟨k_25, hk_25⟩ := va_plg hg0.1 eq_16
  have hD9 := hD
  have rg_26 : 0 ≤ Int32.toInt 0 ∧ Int32.toInt 0 ≤ 300 := by constructor <;> omega
  refine va_put (D := (dC, dI)) (ci := 3) (v := .int 0) (ty := .int) (C := RX3) (T := TX3) (N := 23) hx hb hts iX3_ tyX3 tyX3_ok nmX3 hown hK hP hD hS k_25 hk_25 rfl 14 (by decide) (hts (.fieldLink RX3 160 "FieldLeavesModel" "newMany" "I") (by decide +kernel)) (fun _ h9 => h9) rfl (by decide +kernel) rfl rfl (Nat.le_of_ble_eq_true rfl) dX3_find_14 (fun H locs hP hD hS => ?_)
  have hP : va_P (dC, dI) vwCl (va_pl L (va_up f_15 g0 (.inr (3, [.ref s1_1, .ref s2_1, .ref s3_1, .ref s4_1, .ref s5_1, .ref s6_1, .ref s7_1, .int pa_1, .int lm_1, .ref s8_1, .ref s9_1, .ref s10_1, .int 1, .ref s11_1, .int 0, .ref s12_1, .ref s13_1, .ref s14_1, .int rm_1, .ref s15_1, .ref s16_1, .ref s17_1, .ref s18_1])))) H := by rw [← va_pls hD9 hg0.1 hk_25 _]; exact hP
  have hD : va_D A (va_pl L (va_up f_15 g0 (.inr (3, [.ref s1_1, .ref s2_1, .ref s3_1, .ref s4_1, .ref s5_1, .ref s6_1, .ref s7_1, .int pa_1, .int lm_1, .ref s8_1, .ref s9_1, .ref s10_1, .int 1, .ref s11_1, .int 0, .ref s12_1, .ref s13_1, .ref s14_1, .int rm_1, .ref s15_1, .ref s16_1, .ref s17_1, .ref s18_1])))) := by rw [← va_pls hD9 hg0.1 hk_25 _]; exact hD
  have hPI := hPI.put (e := .inr (3, [.ref s1_1, .ref s2_1, .ref s3_1, .ref s4_1, .ref s5_1, .ref s6_1, .ref s7_1, .int pa_1, .int lm_1, .ref s8_1, .ref s9_1, .ref s10_1, .int 1, .ref s11_1, .int 0, .ref s12_1, .ref s13_1, .ref s14_1, .int rm_1, .ref s15_1, .ref s16_1, .ref s17_1, .ref s18_1])) hg0 ⟨s1_1, s2_1, s3_1, s4_1, s5_1, s6_1, s7_1, pa_1, lm_1, s8_1, s9_1, s10_1, 1, s11_1, 0, s12_1, s13_1, s14_1, rm_1, s15_1, s16_1, s17_1, s18_1, rfl, fs1_1, fs2_1, fs3_1, fs4_1, fs5_1, fs6_1, fs7_1, flm_1, fs8_1, fs9_1, fs10_1, rg_3, fs11_1, rg_26, fs12_1, fs13_1, fs14_1, frm_1, fs15_1, fs16_1, fs17_1, fs18_1⟩
  have es_f_27 : va_up f_15 g0 (.inr (3, [.ref s1_1, .ref s2_1, .ref s3_1, .ref s4_1, .ref s5_1, .ref s6_1, .ref s7_1, .int pa_1, .int lm_1, .ref s8_1, .ref s9_1, .ref s10_1, .int 1, .ref s11_1, .int 0, .ref s12_1, .ref s13_1, .ref s14_1, .int rm_1, .ref s15_1, .ref s16_1, .ref s17_1, .ref s18_1])) g0 = .inr (3, [.ref s1_1, .ref s2_1, .ref s3_1, .ref s4_1, .ref s5_1, .ref s6_1, .ref s7_1, .int pa_1, .int lm_1, .ref s8_1, .ref s9_1, .ref s10_1, .int 1, .ref s11_1, .int 0, .ref s12_1, .ref s13_1, .ref s14_1, .int rm_1, .ref s15_1, .ref s16_1, .ref s17_1, .ref s18_1]) := va_up_self _ _ _
  have eq_28 := (va_up_ne f_15 (.inr (3, [.ref s1_1, .ref s2_1, .ref s3_1, .ref s4_1, .ref s5_1, .ref s6_1, .ref s7_1, .int pa_1, .int lm_1, .ref s8_1, .ref s9_1, .ref s10_1, .int 1, .ref s11_1, .int 0, .ref s12_1, .ref s13_1, .ref s14_1, .int rm_1, .ref s15_1, .ref s16_1, .ref s17_1, .ref s18_1])) (isr_ne fs1_1 hg0 (by decide))).trans eq_17
  have eq_29 := (va_up_ne f_15 (.inr (3, [.ref s1_1, .ref s2_1, .ref s3_1, .ref s4_1, .ref s5_1, .ref s6_1, .ref s7_1, .int pa_1, .int lm_1, .ref s8_1, .ref s9_1, .ref s10_1, .int 1, .ref s11_1, .int 0, .ref s12_1, .ref s13_1, .ref s14_1, .int rm_1, .ref s15_1, .ref s16_1, .ref s17_1, .ref s18_1])) (isr_ne fs2_1 hg0 (by decide))).trans eq_18
  have eq_30 := (va_up_ne f_15 (.inr (3, [.ref s1_1, .ref s2_1, .ref s3_1, .ref s4_1, .ref s5_1, .ref s6_1, .ref s7_1, .int pa_1, .int lm_1, .ref s8_1, .ref s9_1, .ref s10_1, .int 1, .ref s11_1, .int 0, .ref s12_1, .ref s13_1, .ref s14_1, .int rm_1, .ref s15_1, .ref s16_1, .ref s17_1, .ref s18_1])) (isr_ne fs3_1 hg0 (by decide))).trans eq_19
  have eq_31 := (va_up_ne f_15 (.inr (3, [.ref s1_1, .ref s2_1, .ref s3_1, .ref s4_1, .ref s5_1, .ref s6_1, .ref s7_1, .int pa_1, .int lm_1, .ref s8_1, .ref s9_1, .ref s10_1, .int 1, .ref s11_1, .int 0, .ref s12_1, .ref s13_1, .ref s14_1, .int rm_1, .ref s15_1, .ref s16_1, .ref s17_1, .ref s18_1])) (isr_ne fs4_1 hg0 (by decide))).trans eq_20
  have eq_32 := (va_up_ne f_15 (.inr (3, [.ref s1_1, .ref s2_1, .ref s3_1, .ref s4_1, .ref s5_1, .ref s6_1, .ref s7_1, .int pa_1, .int lm_1, .ref s8_1, .ref s9_1, .ref s10_1, .int 1, .ref s11_1, .int 0, .ref s12_1, .ref s13_1, .ref s14_1, .int rm_1, .ref s15_1, .ref s16_1, .ref s17_1, .ref s18_1])) (isr_ne fs5_1 hg0 (by decide))).trans eq_21
  have eq_33 := (va_up_ne f_15 (.inr (3, [.ref s1_1, .ref s2_1, .ref s3_1, .ref s4_1, .ref s5_1, .ref s6_1, .ref s7_1, .int pa_1, .int lm_1, .ref s8_1, .ref s9_1, .ref s10_1, .int 1, .ref s11_1, .int 0, .ref s12_1, .ref s13_1, .ref s14_1, .int rm_1, .ref s15_1, .ref s16_1, .ref s17_1, .ref s18_1])) (isr_ne fs8_1 hg0 (by decide))).trans eq_22
  have eq_34 := (va_up_ne f_15 (.inr (3, [.ref s1_1, .ref s2_1, .ref s3_1, .ref s4_1, .ref s5_1, .ref s6_1, .ref s7_1, .int pa_1, .int lm_1, .ref s8_1, .ref s9_1, .ref s10_1, .int 1, .ref s11_1, .int 0, .ref s12_1, .ref s13_1, .ref s14_1, .int rm_1, .ref s15_1, .ref s16_1, .ref s17_1, .ref s18_1])) (isr_ne fs9_1 hg0 (by decide))).trans eq_23
  have eq_35 := (va_up_ne f_15 (.inr (3, [.ref s1_1, .ref s2_1, .ref s3_1, .ref s4_1, .ref s5_1, .ref s6_1, .ref s7_1, .int pa_1, .int lm_1, .ref s8_1, .ref s9_1, .ref s10_1, .int 1, .ref s11_1, .int 0, .ref s12_1, .ref s13_1, .ref s14_1, .int rm_1, .ref s15_1, .ref s16_1, .ref s17_1, .ref s18_1])) (isr_ne fs10_1 hg0 (by decide))).trans eq_24
  have eq_36 := (va_up_ne f_15 (.inr (3, [.ref s1_1, .ref s2_1, .ref s3_1, .ref s4_1, .ref s5_1, .ref s6_1, .ref s7_1, .int pa_1, .int lm_1, .ref s8_1, .ref s9_1, .ref s10_1, .int 1, .ref s11_1, .int 0, .ref s12_1, .ref s13_1, .ref s14_1, .int rm_1, .ref s15_1, .ref s16_1, .ref s17_1, .ref s18_1])) (isr_ne fs11_1 hg0 (by decide))).trans es_f_15
  have hfr := fr_up (S := (sK [10, 21, 22, 23, 24])) (e := .inr (3, [.ref s1_1, .ref s2_1, .ref s3_1, .ref s4_1, .ref s5_1, .ref s6_1, .ref s7_1, .int pa_1, .int lm_1, .ref s8_1, .ref s9_1, .ref s10_1, .int 1, .ref s11_1, .int 0, .ref s12_1, .ref s13_1, .ref s14_1, .int rm_1, .ref s15_1, .ref s16_1, .ref s17_1, .ref s18_1])) hfr hg0 (by decide)
  generalize hg_f_27 : va_up f_15 g0 (.inr (3, [.ref s1_1, .ref s2_1, .ref s3_1, .ref s4_1, .ref s5_1, .ref s6_1, .ref s7_1, .int pa_1, .int lm_1, .ref s8_1, .ref s9_1, .ref s10_1, .int 1, .ref s11_1, .int 0, .ref s12_1, .ref s13_1, .ref s14_1, .int rm_1, .ref s15_1, .ref s16_1, .ref s17_1, .ref s18_1])) = f_27 at hP hD hPI es_f_27 eq_28 eq_29 eq_30 eq_31 eq_32 eq_33 eq_34 eq_35 eq_36 hfr
  refine lv_aload_n hx hb dX3_find_17 rfl (lv_at hl 0 rfl) ?_
  refine lv_iconst (v := 1) hx hb dX3_find_18 (by decide) ?_
  obtain ⟨k_37, hk_37⟩ := va_plg hg0.1 es_f_27
  have hD9 := hD
  refine va_put (D := (dC, dI)) (ci := 3) (v := .int 1) (ty := .boolean) (C := RX3) (T := TX3) (N := 23) hx hb hts iX3_ tyX3 tyX3_ok nmX3 hown hK hP hD hS k_37 hk_37 rfl 18 (by decide) (hts (.fieldLink RX3 163 "FieldLeavesModel" "isRoom" "Z") (by decide +kernel)) (fun _ h9 => h9) rfl (by decide +kernel) rfl rfl (Nat.le_of_ble_eq_true rfl) dX3_find_19 (fun H locs hP hD hS => ?_)
  have hP : va_P (dC, dI) vwCl (va_pl L (va_up f_27 g0 (.inr (3, [.ref s1_1, .ref s2_1, .ref s3_1, .ref s4_1, .ref s5_1, .ref s6_1, .ref s7_1, .int pa_1, .int lm_1, .ref s8_1, .ref s9_1, .ref s10_1, .int 1, .ref s11_1, .int 0, .ref s12_1, .ref s13_1, .ref s14_1, .int 1, .ref s15_1, .ref s16_1, .ref s17_1, .ref s18_1])))) H := by rw [← va_pls hD9 hg0.1 hk_37 _]; exact hP
  have hD : va_D A (va_pl L (va_up f_27 g0 (.inr (3, [.ref s1_1, .ref s2_1, .ref s3_1, .ref s4_1, .ref s5_1, .ref s6_1, .ref s7_1, .int pa_1, .int lm_1, .ref s8_1, .ref s9_1, .ref s10_1, .int 1, .ref s11_1, .int 0, .ref s12_1, .ref s13_1, .ref s14_1, .int 1, .ref s15_1, .ref s16_1, .ref s17_1, .ref s18_1])))) := by rw [← va_pls hD9 hg0.1 hk_37 _]; exact hD
  have hPI := hPI.put (e := .inr (3, [.ref s1_1, .ref s2_1, .ref s3_1, .ref s4_1, .ref s5_1, .ref s6_1, .ref s7_1, .int pa_1, .int lm_1, .ref s8_1, .ref s9_1, .ref s10_1, .int 1, .ref s11_1, .int 0, .ref s12_1, .ref s13_1, .ref s14_1, .int 1, .ref s15_1, .ref s16_1, .ref s17_1, .ref s18_1])) hg0 ⟨s1_1, s2_1, s3_1, s4_1, s5_1, s6_1, s7_1, pa_1, lm_1, s8_1, s9_1, s10_1, 1, s11_1, 0, s12_1, s13_1, s14_1, 1, s15_1, s16_1, s17_1, s18_1, rfl, fs1_1, fs2_1, fs3_1, fs4_1, fs5_1, fs6_1, fs7_1, flm_1, fs8_1, fs9_1, fs10_1, rg_3, fs11_1, rg_26, fs12_1, fs13_1, fs14_1, (Or.inl rfl), fs15_1, fs16_1, fs17_1, fs18_1⟩
  have es_f_38 : va_up f_27 g0 (.inr (3, [.ref s1_1, .ref s2_1, .ref s3_1, .ref s4_1, .ref s5_1, .ref s6_1, .ref s7_1, .int pa_1, .int lm_1, .ref s8_1, .ref s9_1, .ref s10_1, .int 1, .ref s11_1, .int 0, .ref s12_1, .ref s13_1, .ref s14_1, .int 1, .ref s15_1, .ref s16_1, .ref s17_1, .ref s18_1])) g0 = .inr (3, [.ref s1_1, .ref s2_1, .ref s3_1, .ref s4_1, .ref s5_1, .ref s6_1, .ref s7_1, .int pa_1, .int lm_1, .ref s8_1, .ref s9_1, .ref s10_1, .int 1, .ref s11_1, .int 0, .ref s12_1, .ref s13_1, .ref s14_1, .int 1, .ref s15_1, .ref s16_1, .ref s17_1, .ref s18_1]) := va_up_self _ _ _
  have eq_39 := (va_up_ne f_27 (.inr (3, [.ref s1_1, .ref s2_1, .ref s3_1, .ref s4_1, .ref s5_1, .ref s6_1, .ref s7_1, .int pa_1, .int lm_1, .ref s8_1, .ref s9_1, .ref s10_1, .int 1, .ref s11_1, .int 0, .ref s12_1, .ref s13_1, .ref s14_1, .int 1, .ref s15_1, .ref s16_1, .ref s17_1, .ref s18_1])) (isr_ne fs1_1 hg0 (by decide))).trans eq_28
  have eq_40 := (va_up_ne f_27 (.inr (3, [.ref s1_1, .ref s2_1, .ref s3_1, .ref s4_1, .ref s5_1, .ref s6_1, .ref s7_1, .int pa_1, .int lm_1, .ref s8_1, .ref s9_1, .ref s10_1, .int 1, .ref s11_1, .int 0, .ref s12_1, .ref s13_1, .ref s14_1, .int 1, .ref s15_1, .ref s16_1, .ref s17_1, .ref s18_1])) (isr_ne fs2_1 hg0 (by decide))).trans eq_29
  have eq_41 := (va_up_ne f_27 (.inr (3, [.ref s1_1, .ref s2_1, .ref s3_1, .ref s4_1, .ref s5_1, .ref s6_1, .ref s7_1, .int pa_1, .int lm_1, .ref s8_1, .ref s9_1, .ref s10_1, .int 1, .ref s11_1, .int 0, .ref s12_1, .ref s13_1, .ref s14_1, .int 1, .ref s15_1, .ref s16_1, .ref s17_1, .ref s18_1])) (isr_ne fs3_1 hg0 (by decide))).trans eq_30
  have eq_42 := (va_up_ne f_27 (.inr (3, [.ref s1_1, .ref s2_1, .ref s3_1, .ref s4_1, .ref s5_1, .ref s6_1, .ref s7_1, .int pa_1, .int lm_1, .ref s8_1, .ref s9_1, .ref s10_1, .int 1, .ref s11_1, .int 0, .ref s12_1, .ref s13_1, .ref s14_1, .int 1, .ref s15_1, .ref s16_1, .ref s17_1, .ref s18_1])) (isr_ne fs4_1 hg0 (by decide))).trans eq_31
  have eq_43 := (va_up_ne f_27 (.inr (3, [.ref s1_1, .ref s2_1, .ref s3_1, .ref s4_1, .ref s5_1, .ref s6_1, .ref s7_1, .int pa_1, .int lm_1, .ref s8_1, .ref s9_1, .ref s10_1, .int 1, .ref s11_1, .int 0, .ref s12_1, .ref s13_1, .ref s14_1, .int 1, .ref s15_1, .ref s16_1, .ref s17_1, .ref s18_1])) (isr_ne fs5_1 hg0 (by decide))).trans eq_32
  have eq_44 := (va_up_ne f_27 (.inr (3, [.ref s1_1, .ref s2_1, .ref s3_1, .ref s4_1, .ref s5_1, .ref s6_1, .ref s7_1, .int pa_1, .int lm_1, .ref s8_1, .ref s9_1, .ref s10_1, .int 1, .ref s11_1, .int 0, .ref s12_1, .ref s13_1, .ref s14_1, .int 1, .ref s15_1, .ref s16_1, .ref s17_1, .ref s18_1])) (isr_ne fs8_1 hg0 (by decide))).trans eq_33
  have eq_45 := (va_up_ne f_27 (.inr (3, [.ref s1_1, .ref s2_1, .ref s3_1, .ref s4_1, .ref s5_1, .ref s6_1, .ref s7_1, .int pa_1, .int lm_1, .ref s8_1, .ref s9_1, .ref s10_1, .int 1, .ref s11_1, .int 0, .ref s12_1, .ref s13_1, .ref s14_1, .int 1, .ref s15_1, .ref s16_1, .ref s17_1, .ref s18_1])) (isr_ne fs9_1 hg0 (by decide))).trans eq_34
  have eq_46 := (va_up_ne f_27 (.inr (3, [.ref s1_1, .ref s2_1, .ref s3_1, .ref s4_1, .ref s5_1, .ref s6_1, .ref s7_1, .int pa_1, .int lm_1, .ref s8_1, .ref s9_1, .ref s10_1, .int 1, .ref s11_1, .int 0, .ref s12_1, .ref s13_1, .ref s14_1, .int 1, .ref s15_1, .ref s16_1, .ref s17_1, .ref s18_1])) (isr_ne fs10_1 hg0 (by decide))).trans eq_35
  have eq_47 := (va_up_ne f_27 (.inr (3, [.ref s1_1, .ref s2_1, .ref s3_1, .ref s4_1, .ref s5_1, .ref s6_1, .ref s7_1, .int pa_1, .int lm_1, .ref s8_1, .ref s9_1, .ref s10_1, .int 1, .ref s11_1, .int 0, .ref s12_1, .ref s13_1, .ref s14_1, .int 1, .ref s15_1, .ref s16_1, .ref s17_1, .ref s18_1])) (isr_ne fs11_1 hg0 (by decide))).trans eq_36
  have hfr := fr_up (S := (sK [10, 21, 22, 23, 24])) (e := .inr (3, [.ref s1_1, .ref s2_1, .ref s3_1, .ref s4_1, .ref s5_1, .ref s6_1, .ref s7_1, .int pa_1, .int lm_1, .ref s8_1, .ref s9_1, .ref s10_1, .int 1, .ref s11_1, .int 0, .ref s12_1, .ref s13_1, .ref s14_1, .int 1, .ref s15_1, .ref s16_1, .ref s17_1, .ref s18_1])) hfr hg0 (by decide)
  generalize hg_f_38 : va_up f_27 g0 (.inr (3, [.ref s1_1, .ref s2_1, .ref s3_1, .ref s4_1, .ref s5_1, .ref s6_1, .ref s7_1, .int pa_1, .int lm_1, .ref s8_1, .ref s9_1, .ref s10_1, .int 1, .ref s11_1, .int 0, .ref s12_1, .ref s13_1, .ref s14_1, .int 1, .ref s15_1, .ref s16_1, .ref s17_1, .ref s18_1])) = f_38 at hP hD hPI es_f_38 eq_39 eq_40 eq_41 eq_42 eq_43 eq_44 eq_45 eq_46 eq_47 hfr
  refine lv_iconst (v := 0) hx hb dX3_find_22 (by decide) ?_
  refine lv_istore_n (lv' := [(2, .int 0), (0, .ref g0), (1, .int o0)]) hx hb dX3_find_23 rfl hl (by decide) rfl (fun ls hl => ?_)
  have hfrE24 := hfr
  have loop_24 : ∀ (n : Nat) (i2 : Int32)   (fl : Nat → va_E) (H : Heap) (locs : List Loc) (ls : Array Slot), (0 ≤ i2.toInt ∧ i2.toInt ≤ 24) → (24 - i2.toInt).toNat < n → (FR (sK [10, 21, 22, 23, 24]) K L f_38 fl ∧ (KQ2 f fl g0 ∧ (cI (fl g0) 14).toInt = 0 ∧ ((cI (fl g0) 18 = 1 ∧ ∃ lf, FLr kI K L fl g0 lf ∧ fd (r_lk fC fF) (25 - i2.toInt).toNat i2.toInt.toNat lf = (fd (r_lk fC fF) 25 0 [(Int32.toNatClampNeg o0)])) ∨ (cI (fl g0) 18 = 0 ∧ (fd (r_lk fC fF) 25 0 [(Int32.toNatClampNeg o0)]) = none)))) → PR kI kJ kZ K L fl → va_P (dC, dI) vwCl (va_pl L fl) H → va_D A (va_pl L fl) → va_S A s.heap H locs → lv_has ls 6 [(2, .int i2), (0, .ref g0), (1, .int o0)] → W p l e (headSpec wsX3_find ({ frames := 2, cells := 0, slots := 0, locals := 50 } : Room)).room s m (([.ref g0, .int o0] : List Value).toArray) below meth c H locs 0 0 Q0 (F0 m 24 ls []) := by
    intro n
    induction n with
    | zero => intro i2 fl H locs ls  _ h9; exact absurd h9 (Nat.not_lt_zero _)
    | succ n ih_24 =>
      intro i2 fl H locs ls  hI hM hFN hPI hP hD hS hl
      obtain ⟨hfr, hFN⟩ := hFN
      have eq_48 := (hfr s1_1 fs1_1.1 (by rw [fs1_1.2]; rfl)).trans eq_39
      have eq_49 := (hfr s2_1 fs2_1.1 (by rw [fs2_1.2]; rfl)).trans eq_40
      have eq_50 := (hfr s3_1 fs3_1.1 (by rw [fs3_1.2]; rfl)).trans eq_41
      have eq_51 := (hfr s4_1 fs4_1.1 (by rw [fs4_1.2]; rfl)).trans eq_42
      have eq_52 := (hfr s5_1 fs5_1.1 (by rw [fs5_1.2]; rfl)).trans eq_43
      have eq_53 := (hfr s8_1 fs8_1.1 (by rw [fs8_1.2]; rfl)).trans eq_44
      have eq_54 := (hfr s9_1 fs9_1.1 (by rw [fs9_1.2]; rfl)).trans eq_45
      have eq_55 := (hfr s10_1 fs10_1.1 (by rw [fs10_1.2]; rfl)).trans eq_46
      obtain ⟨hKQ, h14, hFD⟩ := hFN
      (refine hPI.a10E hg0 ?_; intro s1_56 s2_56 s3_56 s4_56 s5_56 s6_56 s7_56 pa_56 lm_56 s8_56 s9_56 s10_56 fm_56 s11_56 nm_56 s12_56 s13_56 s14_56 rm_56 s15_56 s16_56 s17_56 s18_56 e_56 fs1_56 fs2_56 fs3_56 fs4_56 fs5_56 fs6_56 fs7_56 flm_56 fs8_56 fs9_56 fs10_56 ffm_56 fs11_56 fnm_56 fs12_56 fs13_56 fs14_56 frm_56 fs15_56 fs16_56 fs17_56 fs18_56)
      obtain ⟨k_56, hk_56⟩ := va_plg hg0.1 e_56
      obtain rfl : s1_1 = s1_56 := hU _ _ fs1_1.1 fs1_56.1 (fs1_1.2.trans fs1_56.2.symm)
      obtain rfl : s2_1 = s2_56 := hU _ _ fs2_1.1 fs2_56.1 (fs2_1.2.trans fs2_56.2.symm)
      obtain rfl : s3_1 = s3_56 := hU _ _ fs3_1.1 fs3_56.1 (fs3_1.2.trans fs3_56.2.symm)
      obtain rfl : s4_1 = s4_56 := hU _ _ fs4_1.1 fs4_56.1 (fs4_1.2.trans fs4_56.2.symm)
      obtain rfl : s5_1 = s5_56 := hU _ _ fs5_1.1 fs5_56.1 (fs5_1.2.trans fs5_56.2.symm)
      obtain rfl : s6_1 = s6_56 := hU _ _ fs6_1.1 fs6_56.1 (fs6_1.2.trans fs6_56.2.symm)
      obtain rfl : s7_1 = s7_56 := hU _ _ fs7_1.1 fs7_56.1 (fs7_1.2.trans fs7_56.2.symm)
      obtain rfl : s8_1 = s8_56 := hU _ _ fs8_1.1 fs8_56.1 (fs8_1.2.trans fs8_56.2.symm)
      obtain rfl : s9_1 = s9_56 := hU _ _ fs9_1.1 fs9_56.1 (fs9_1.2.trans fs9_56.2.symm)
      obtain rfl : s10_1 = s10_56 := hU _ _ fs10_1.1 fs10_56.1 (fs10_1.2.trans fs10_56.2.symm)
      obtain rfl : s11_1 = s11_56 := hU _ _ fs11_1.1 fs11_56.1 (fs11_1.2.trans fs11_56.2.symm)
      obtain rfl : s12_1 = s12_56 := hU _ _ fs12_1.1 fs12_56.1 (fs12_1.2.trans fs12_56.2.symm)
      obtain rfl : s13_1 = s13_56 := hU _ _ fs13_1.1 fs13_56.1 (fs13_1.2.trans fs13_56.2.symm)
      obtain rfl : s14_1 = s14_56 := hU _ _ fs14_1.1 fs14_56.1 (fs14_1.2.trans fs14_56.2.symm)
      obtain rfl : s15_1 = s15_56 := hU _ _ fs15_1.1 fs15_56.1 (fs15_1.2.trans fs15_56.2.symm)
      obtain rfl : s16_1 = s16_56 := hU _ _ fs16_1.1 fs16_56.1 (fs16_1.2.trans fs16_56.2.symm)
      obtain rfl : s17_1 = s17_56 := hU _ _ fs17_1.1 fs17_56.1 (fs17_1.2.trans fs17_56.2.symm)
      obtain rfl : s18_1 = s18_56 := hU _ _ fs18_1.1 fs18_56.1 (fs18_1.2.trans fs18_56.2.symm)
      rw [show cI (fl g0) 18 = rm_56 from by rw [e_56]; rfl] at hFD
      have hk7 : pa_56 = cI (f g0) 7 := by rw [← hKQ.1, e_56]; rfl
      have hk8 : lm_56 = cI (f g0) 8 := by rw [← hKQ.2, e_56]; rfl
      rcases hFD with ⟨h18, lf, ⟨gF, hr21, hfm, hat⟩, hfd⟩ | ⟨h18, hfd⟩
      · subst h18
        have hn14 : nm_56.toInt = 0 := by rw [← (show cI (fl g0) 14 = nm_56 from by rw [e_56]; rfl)]; exact h14
        have eg_57 := hr21 s11_1 fs11_1
        have fg_57 := (hPI.a21 fs11_1).of eg_57
        rw [show cI (fl g0) 12 = fm_56 from by rw [e_56]; rfl] at hfm
        have hF : fm_56.toInt = ((lf).length : Int) ∧ ∀ i t, (lf)[i]? = some t → (fun i => some (Int32.toNatClampNeg (gF i))) i = some t := ⟨hfm, hat⟩
        refine lv_iload_n hx hb dX3_find_24 rfl (lv_at hl 0 rfl) ?_
        refine lv_aload_n hx hb dX3_find_25 rfl (lv_at hl 1 rfl) ?_
        obtain ⟨k_58, hk_58⟩ := va_plg hg0.1 e_56
        refine va_get (D := (dC, dI)) (ci := 3) (v := .int fm_56) (C := RX3) (T := TX3) (N := 23) hx hb hts iX3_ hown hK hP k_58 hk_58 rfl 12 (by decide) (hts (.fieldLink RX3 167 "FieldLeavesModel" "foundMany" "I") (by decide +kernel)) (fun _ h9 => h9) rfl dX3_find_26 ?_
        refine lv_icmp_ge (tgt := 200) hx hb dX3_find_29 (by decide) (fun c_59 => ?_) (fun c_59 => ?_)
        · have c_59 := Int32.le_iff_toInt_le.mp c_59
          refine lv_iconst (v := 0) hx hb dX3_find_200 (by decide) ?_
          refine lv_istore_n (lv' := [(2, .int 0), (0, .ref g0), (1, .int o0)]) hx hb dX3_find_201 rfl hl (by decide) rfl (fun ls hl => ?_)
          have hfrE202 := hfr
          obtain ⟨g_60, e_60, fg_60⟩ := hPI.a22 fs12_1
          obtain ⟨k_60, hk_60⟩ := va_plg fs12_1.1 e_60
          obtain ⟨g_61, e_61, fg_61⟩ := hPI.a23 fs13_1
          obtain ⟨k_61, hk_61⟩ := va_plg fs13_1.1 e_61
          obtain ⟨g_62, e_62, fg_62⟩ := hPI.a24 fs14_1
          obtain ⟨k_62, hk_62⟩ := va_plg fs14_1.1 e_62
          have loop_202 : ∀ (n : Nat) (j2 : Int32)   (fl202 : Nat → va_E) (H : Heap) (locs : List Loc) (ls : Array Slot), (0 ≤ j2.toInt ∧ j2.toInt ≤ 24) → (24 - j2.toInt).toNat < n → (FR (sK [10, 21, 22, 23, 24]) K L fl fl202 ∧ (KQ2 f fl202 g0 ∧ ((∃ lf, (fd (r_lk fC fF) 25 0 [(Int32.toNatClampNeg o0)]) = some lf ∧ FLr kI K L fl202 g0 lf ∧ j2.toInt ≤ (lf.length : Int) ∧ TSr kI kJ K L fl202 g0 (lall (tls (-4) fC (r_vl fC fF) (r_lk fC fF) (r_rw fC fR fW) lf) (Int32.toNatClampNeg j2))) ∨ (cI (fl202 g0) 18 = 0 ∧ (fd (r_lk fC fF) 25 0 [(Int32.toNatClampNeg o0)]) = none)))) → PR kI kJ kZ K L fl202 → va_P (dC, dI) vwCl (va_pl L fl202) H → va_D A (va_pl L fl202) → va_S A s.heap H locs → lv_has ls 6 [(2, .int j2), (0, .ref g0), (1, .int o0)] → W p l e (headSpec wsX3_find ({ frames := 2, cells := 0, slots := 0, locals := 50 } : Room)).room s m (([.ref g0, .int o0] : List Value).toArray) below meth c H locs 0 0 Q0 (F0 m 202 ls []) := by
            intro n
            induction n with
            | zero => intro j2 fl202 H locs ls  _ h9; exact absurd h9 (Nat.not_lt_zero _)
            | succ n ih_202 =>
              intro j2 fl202 H locs ls  hI hM hFN hPI hP hD hS hl
              obtain ⟨hfr, hFN⟩ := hFN
              have eq_63 := (hfr s1_1 fs1_1.1 (by rw [fs1_1.2]; rfl)).trans eq_48
              have eq_64 := (hfr s2_1 fs2_1.1 (by rw [fs2_1.2]; rfl)).trans eq_49
              have eq_65 := (hfr s3_1 fs3_1.1 (by rw [fs3_1.2]; rfl)).trans eq_50
              have eq_66 := (hfr s4_1 fs4_1.1 (by rw [fs4_1.2]; rfl)).trans eq_51
              have eq_67 := (hfr s5_1 fs5_1.1 (by rw [fs5_1.2]; rfl)).trans eq_52
              have eq_68 := (hfr s8_1 fs8_1.1 (by rw [fs8_1.2]; rfl)).trans eq_53
              have eq_69 := (hfr s9_1 fs9_1.1 (by rw [fs9_1.2]; rfl)).trans eq_54
              have eq_70 := (hfr s10_1 fs10_1.1 (by rw [fs10_1.2]; rfl)).trans eq_55
              obtain ⟨hKQ, hFD⟩ := hFN
              rcases hFD with ⟨lf, hTD, hFL, hjl, hTS⟩ | ⟨h18, hTD⟩
              · (refine hPI.a10E hg0 ?_; intro s1_71 s2_71 s3_71 s4_71 s5_71 s6_71 s7_71 pa_71 lm_71 s8_71 s9_71 s10_71 fm_71 s11_71 nm_71 s12_71 s13_71 s14_71 rm_71 s15_71 s16_71 s17_71 s18_71 e_71 fs1_71 fs2_71 fs3_71 fs4_71 fs5_71 fs6_71 fs7_71 flm_71 fs8_71 fs9_71 fs10_71 ffm_71 fs11_71 fnm_71 fs12_71 fs13_71 fs14_71 frm_71 fs15_71 fs16_71 fs17_71 fs18_71)
                obtain ⟨k_71, hk_71⟩ := va_plg hg0.1 e_71
                obtain rfl : s1_1 = s1_71 := hU _ _ fs1_1.1 fs1_71.1 (fs1_1.2.trans fs1_71.2.symm)
                obtain rfl : s2_1 = s2_71 := hU _ _ fs2_1.1 fs2_71.1 (fs2_1.2.trans fs2_71.2.symm)
                obtain rfl : s3_1 = s3_71 := hU _ _ fs3_1.1 fs3_71.1 (fs3_1.2.trans fs3_71.2.symm)
                obtain rfl : s4_1 = s4_71 := hU _ _ fs4_1.1 fs4_71.1 (fs4_1.2.trans fs4_71.2.symm)
                obtain rfl : s5_1 = s5_71 := hU _ _ fs5_1.1 fs5_71.1 (fs5_1.2.trans fs5_71.2.symm)
                obtain rfl : s6_1 = s6_71 := hU _ _ fs6_1.1 fs6_71.1 (fs6_1.2.trans fs6_71.2.symm)
                obtain rfl : s7_1 = s7_71 := hU _ _ fs7_1.1 fs7_71.1 (fs7_1.2.trans fs7_71.2.symm)
                obtain rfl : s8_1 = s8_71 := hU _ _ fs8_1.1 fs8_71.1 (fs8_1.2.trans fs8_71.2.symm)
                obtain rfl : s9_1 = s9_71 := hU _ _ fs9_1.1 fs9_71.1 (fs9_1.2.trans fs9_71.2.symm)
                obtain rfl : s10_1 = s10_71 := hU _ _ fs10_1.1 fs10_71.1 (fs10_1.2.trans fs10_71.2.symm)
                obtain rfl : s11_1 = s11_71 := hU _ _ fs11_1.1 fs11_71.1 (fs11_1.2.trans fs11_71.2.symm)
                obtain rfl : s12_1 = s12_71 := hU _ _ fs12_1.1 fs12_71.1 (fs12_1.2.trans fs12_71.2.symm)
                obtain rfl : s13_1 = s13_71 := hU _ _ fs13_1.1 fs13_71.1 (fs13_1.2.trans fs13_71.2.symm)
                obtain rfl : s14_1 = s14_71 := hU _ _ fs14_1.1 fs14_71.1 (fs14_1.2.trans fs14_71.2.symm)
                obtain rfl : s15_1 = s15_71 := hU _ _ fs15_1.1 fs15_71.1 (fs15_1.2.trans fs15_71.2.symm)
                obtain rfl : s16_1 = s16_71 := hU _ _ fs16_1.1 fs16_71.1 (fs16_1.2.trans fs16_71.2.symm)
                obtain rfl : s17_1 = s17_71 := hU _ _ fs17_1.1 fs17_71.1 (fs17_1.2.trans fs17_71.2.symm)
                obtain rfl : s18_1 = s18_71 := hU _ _ fs18_1.1 fs18_71.1 (fs18_1.2.trans fs18_71.2.symm)
                obtain ⟨gF, hr21, hfm, hat⟩ := id hFL
                have eg_72 := hr21 s11_1 fs11_1
                have fg_72 := (hPI.a21 fs11_1).of eg_72
                rw [show cI (fl202 g0) 12 = fm_71 from by rw [e_71]; rfl] at hfm
                have hF : fm_71.toInt = ((lf).length : Int) ∧ ∀ i t, (lf)[i]? = some t → (fun i => some (Int32.toNatClampNeg (gF i))) i = some t := ⟨hfm, hat⟩
                refine lv_iload_n hx hb dX3_find_202 rfl (lv_at hl 0 rfl) ?_
                refine lv_aload_n hx hb dX3_find_203 rfl (lv_at hl 1 rfl) ?_
                obtain ⟨k_73, hk_73⟩ := va_plg hg0.1 e_71
                refine va_get (D := (dC, dI)) (ci := 3) (v := .int fm_71) (C := RX3) (T := TX3) (N := 23) hx hb hts iX3_ hown hK hP k_73 hk_73 rfl 12 (by decide) (hts (.fieldLink RX3 167 "FieldLeavesModel" "foundMany" "I") (by decide +kernel)) (fun _ h9 => h9) rfl dX3_find_204 ?_
                refine lv_icmp_ge (tgt := 234) hx hb dX3_find_207 (by decide) (fun c_74 => ?_) (fun c_74 => ?_)
                · have c_74 := Int32.le_iff_toInt_le.mp c_74
                  refine lv_aload_n hx hb dX3_find_234 rfl (lv_at hl 1 rfl) ?_
                  obtain ⟨k_75, hk_75⟩ := va_plg hg0.1 e_71
                  refine va_get (D := (dC, dI)) (ci := 3) (v := .int rm_71) (C := RX3) (T := TX3) (N := 23) hx hb hts iX3_ hown hK hP k_75 hk_75 rfl 18 (by decide) (hts (.fieldLink RX3 163 "FieldLeavesModel" "isRoom" "Z") (by decide +kernel)) (fun _ h9 => h9) rfl dX3_find_235 ?_
                  rcases frm_71 with rfl | rfl
                  · have hjx : Int32.toNatClampNeg j2 = lf.length := by have h7 := clamp_int (i := j2) (by omega); omega
                    subst eQ
                    exact W.zret (v := 1) hx hb hr rfl (fun t ht hW => ⟨⟨1, (), rfl, Or.inl ⟨rfl, by rw [tlS_some hTD (by have h8 := (hTS.room.1 (show cI (fl202 g0) 18 = 1 from by rw [e_71]; rfl)).2; rw [hjx] at h8; exact h8)]; exact fun h9 => by cases h9⟩, fl202, hPI, ⟨(FR.tr hfrE24 (FR.tr hfrE202 hfr (fun _ h => h)) (fun _ h => h)), hKQ, fun lz h9 => by rw [tlS_some hTD (by have h8 := (hTS.room.1 (show cI (fl202 g0) 18 = 1 from by rw [e_71]; rfl)).2; rw [hjx] at h8; exact h8)] at h9; cases h9; have h8 := (hTS.room.1 (show cI (fl202 g0) 18 = 1 from by rw [e_71]; rfl)).1; rw [hjx] at h8; exact h8⟩, by rw [ht]; exact hP, hD⟩, hS.F ht⟩) hS.2.2 dX3_find_238
                  · subst eQ
                    exact W.zret (v := 0) hx hb hr rfl (fun t ht hW => ⟨⟨0, (), rfl, Or.inr ⟨rfl, tlS_none2 hTD (Nat.lt_of_lt_of_le (hTS.room.2 (show cI (fl202 g0) 18 = 0 from by rw [e_71]; rfl)) (lall_mono (by have h7 := clamp_int (i := j2) (by omega); omega)))⟩, fl202, hPI, ⟨(FR.tr hfrE24 (FR.tr hfrE202 hfr (fun _ h => h)) (fun _ h => h)), hKQ, fun lz h9 => by rw [tlS_none2 hTD (Nat.lt_of_lt_of_le (hTS.room.2 (show cI (fl202 g0) 18 = 0 from by rw [e_71]; rfl)) (lall_mono (by have h7 := clamp_int (i := j2) (by omega); omega)))] at h9; cases h9⟩, by rw [ht]; exact hP, hD⟩, hS.F ht⟩) hS.2.2 dX3_find_238
                · have c_74 := mt Int32.le_iff_toInt_le.mpr c_74
                  refine lv_aload_n hx hb dX3_find_210 rfl (lv_at hl 1 rfl) ?_
                  obtain ⟨k_76, hk_76⟩ := va_plg hg0.1 e_71
                  refine va_get (D := (dC, dI)) (ci := 3) (v := .int rm_71) (C := RX3) (T := TX3) (N := 23) hx hb hts iX3_ hown hK hP k_76 hk_76 rfl 18 (by decide) (hts (.fieldLink RX3 163 "FieldLeavesModel" "isRoom" "Z") (by decide +kernel)) (fun _ h9 => h9) rfl dX3_find_211 ?_
                  rcases frm_71 with rfl | rfl
                  · refine lv_if_eq (tgt := 234) hx hb dX3_find_214 (by decide) (fun c9 => absurd c9 (by decide)) (fun _ => ?_)
                    refine lv_aload_n hx hb dX3_find_217 rfl (lv_at hl 1 rfl) ?_
                    refine lv_iload_n hx hb dX3_find_218 rfl (lv_at hl 0 rfl) ?_
                    refine lv_aload_n hx hb dX3_find_219 rfl (lv_at hl 1 rfl) ?_
                    obtain ⟨k_77, hk_77⟩ := va_plg hg0.1 e_71
                    refine va_get (D := (dC, dI)) (ci := 3) (v := .ref s11_1) (C := RX3) (T := TX3) (N := 23) hx hb hts iX3_ hown hK hP k_77 hk_77 rfl 13 (by decide) (hts (.fieldLink RX3 44 "FieldLeavesModel" "found" "[I") (by decide +kernel)) (fun _ h9 => h9) rfl dX3_find_220 ?_
                    refine lv_iload_n hx hb dX3_find_223 rfl (lv_at hl 0 rfl) ?_
                    obtain ⟨k_78, hk_78⟩ := va_plg fs11_1.1 eg_72
                    have h_78 : vp_in j2 25 := (vp_in_iff.mpr (by constructor <;> omega))
                    refine va_iald hx hb hK hP k_78 0 hk_78 rfl h_78 dX3_find_224 ?_
                    refine lv_topi (fun z_78 ez_78 => ?_)
                    have fz_78 := fg_72 _ (vp_lt h_78)
                    rw [← ez_78] at fz_78
                    have hdez_78 := congrArg Int32.toInt ez_78
                    have hat9 := fs_at hF (i := j2) (by omega) (by omega) (show (fun i => some (Int32.toNatClampNeg (gF i))) (Int32.toNatClampNeg j2) = some (Int32.toNatClampNeg z_78) from by rw [ez_78])
                    have hRV9 := hRV.kq (FR.tr hfrE24 (FR.tr hfrE202 hfr (fun _ h => h)) (fun _ h => h)) ⟨rfl, rfl, rfl, rfl, rfl, rfl, rfl, rfl⟩ hKQ
                    have hFc := pl_free hD hS hA
                    obtain ⟨k_79, hk_79⟩ := va_plg hg0.1 e_71
                    refine va_callv (va_runV (b := g0) (As := [.int j2, .int z_78]) (rest := []) ⟨hx, hb, hml, hown, hts⟩ (v_X3_tellObject l dC dI TT H.size kI kJ kZ K L fl202 hPI g0 hg0 j2 z_78 (by constructor <;> omega) (by constructor <;> omega) hU fS fC fF fR fW lo ld lv lm_1 pa_1 hRV9 lf hFL (lall (tls (-4) fC (r_vl fC fF) (r_lk fC fF) (r_rw fC fR fW) lf) (Int32.toNatClampNeg j2)) hTS) (cwV 2 hts gX3_find_X3_tellObject rfl rfl rfl (by decide +kernel) ⟨Nat.le_of_ble_eq_true rfl, Nat.le_of_ble_eq_true rfl⟩) ⟨pr_blind, va_recv hK hP (ci := 3) rfl hk_79, (pr_S (ws := va_pl L fl202) (wA := va_pl L fl202) (tys := [(kI, .int), (kJ, .long), (kZ, .boolean)]) hP hK (hD.weaken (fun _ _ _ _ => trivial)) hst hS hFc).2⟩ rfl rfl hl.1 rfl (lv_room (Nat.le_of_ble_eq_true rfl)) dX3_find_225 ⟨Nat.le_of_ble_eq_true rfl, Nat.le_of_ble_eq_true rfl⟩) hS (fun q _ h => hFc q h) hFc (fun u t H1 locs ht hvm hw hB hz1 hk1 hS => ?_)
                    obtain ⟨f_81, hPI, hrel, hP, hD9⟩ := hB
                    rw [ht] at hP
                    have hD := hD9.weaken (fun _ q _ h => hFc q.1 h)
                    obtain ⟨hrelF, hrel⟩ := hrel
                    have eq_82 := (hrelF s1_1 fs1_1.1 (by rw [fs1_1.2]; rfl)).trans eq_63
                    have eq_83 := (hrelF s2_1 fs2_1.1 (by rw [fs2_1.2]; rfl)).trans eq_64
                    have eq_84 := (hrelF s3_1 fs3_1.1 (by rw [fs3_1.2]; rfl)).trans eq_65
                    have eq_85 := (hrelF s4_1 fs4_1.1 (by rw [fs4_1.2]; rfl)).trans eq_66
                    have eq_86 := (hrelF s5_1 fs5_1.1 (by rw [fs5_1.2]; rfl)).trans eq_67
                    have eq_87 := (hrelF s8_1 fs8_1.1 (by rw [fs8_1.2]; rfl)).trans eq_68
                    have eq_88 := (hrelF s9_1 fs9_1.1 (by rw [fs9_1.2]; rfl)).trans eq_69
                    have eq_89 := (hrelF s10_1 fs10_1.1 (by rw [fs10_1.2]; rfl)).trans eq_70
                    have eq_90 := (hrelF s11_1 fs11_1.1 (by rw [fs11_1.2]; rfl)).trans eg_72
                    have hfr := FR.tr hfr hrelF (sK_sub (by decide))
                    generalize H1 = H at hP hS ⊢
                    obtain ⟨hKQ1, hTS⟩ := hrel
                    have hKQ := hKQ.tr hKQ1.1
                    have hFL := hFL.kq hrelF rfl hKQ1
                    obtain ⟨i_91, ei_91⟩ : ∃ y : Int32, y = j2 + 1 := ⟨_, rfl⟩
                    refine lv_iinc (v := i_91) (lv' := [(2, .int i_91), (0, .ref g0), (1, .int o0)]) hx hb dX3_find_228 hl (k := 0) rfl (by rw [ei_91]; rfl) (by decide) rfl (fun ls hl => ?_)
                    have ki_91 := inc_toInt ei_91 (by omega)
                    refine lv_goto (tgt := 202) hx hb dX3_find_231 (by decide) ?_
                    (refine hPI.a10E hg0 ?_; intro s1_92 s2_92 s3_92 s4_92 s5_92 s6_92 s7_92 pa_92 lm_92 s8_92 s9_92 s10_92 fm_92 s11_92 nm_92 s12_92 s13_92 s14_92 rm_92 s15_92 s16_92 s17_92 s18_92 e_92 fs1_92 fs2_92 fs3_92 fs4_92 fs5_92 fs6_92 fs7_92 flm_92 fs8_92 fs9_92 fs10_92 ffm_92 fs11_92 fnm_92 fs12_92 fs13_92 fs14_92 frm_92 fs15_92 fs16_92 fs17_92 fs18_92)
                    obtain ⟨k_92, hk_92⟩ := va_plg hg0.1 e_92
                    obtain rfl : s1_1 = s1_92 := hU _ _ fs1_1.1 fs1_92.1 (fs1_1.2.trans fs1_92.2.symm)
                    obtain rfl : s2_1 = s2_92 := hU _ _ fs2_1.1 fs2_92.1 (fs2_1.2.trans fs2_92.2.symm)
                    obtain rfl : s3_1 = s3_92 := hU _ _ fs3_1.1 fs3_92.1 (fs3_1.2.trans fs3_92.2.symm)
                    obtain rfl : s4_1 = s4_92 := hU _ _ fs4_1.1 fs4_92.1 (fs4_1.2.trans fs4_92.2.symm)
                    obtain rfl : s5_1 = s5_92 := hU _ _ fs5_1.1 fs5_92.1 (fs5_1.2.trans fs5_92.2.symm)
                    obtain rfl : s6_1 = s6_92 := hU _ _ fs6_1.1 fs6_92.1 (fs6_1.2.trans fs6_92.2.symm)
                    obtain rfl : s7_1 = s7_92 := hU _ _ fs7_1.1 fs7_92.1 (fs7_1.2.trans fs7_92.2.symm)
                    obtain rfl : s8_1 = s8_92 := hU _ _ fs8_1.1 fs8_92.1 (fs8_1.2.trans fs8_92.2.symm)
                    obtain rfl : s9_1 = s9_92 := hU _ _ fs9_1.1 fs9_92.1 (fs9_1.2.trans fs9_92.2.symm)
                    obtain rfl : s10_1 = s10_92 := hU _ _ fs10_1.1 fs10_92.1 (fs10_1.2.trans fs10_92.2.symm)
                    obtain rfl : s11_1 = s11_92 := hU _ _ fs11_1.1 fs11_92.1 (fs11_1.2.trans fs11_92.2.symm)
                    obtain rfl : s12_1 = s12_92 := hU _ _ fs12_1.1 fs12_92.1 (fs12_1.2.trans fs12_92.2.symm)
                    obtain rfl : s13_1 = s13_92 := hU _ _ fs13_1.1 fs13_92.1 (fs13_1.2.trans fs13_92.2.symm)
                    obtain rfl : s14_1 = s14_92 := hU _ _ fs14_1.1 fs14_92.1 (fs14_1.2.trans fs14_92.2.symm)
                    obtain rfl : s15_1 = s15_92 := hU _ _ fs15_1.1 fs15_92.1 (fs15_1.2.trans fs15_92.2.symm)
                    obtain rfl : s16_1 = s16_92 := hU _ _ fs16_1.1 fs16_92.1 (fs16_1.2.trans fs16_92.2.symm)
                    obtain rfl : s17_1 = s17_92 := hU _ _ fs17_1.1 fs17_92.1 (fs17_1.2.trans fs17_92.2.symm)
                    obtain rfl : s18_1 = s18_92 := hU _ _ fs18_1.1 fs18_92.1 (fs18_1.2.trans fs18_92.2.symm)
                    exact ih_202 i_91 f_81 _ _ _  (by omega) (by omega) ⟨hfr, ⟨hKQ, Or.inl ⟨lf, hTD, hFL, by omega, (by rw [lall_step (by omega) ki_91, tls_at (by omega), getD_is hat9]; exact hTS)⟩⟩⟩ hPI hP hD hS (lv_sub hl [0, 1, 2] rfl)
                  · refine lv_if_eq (tgt := 234) hx hb dX3_find_214 (by decide) (fun _ => ?_) (fun c9 => absurd c9 (by decide))
                    refine lv_aload_n hx hb dX3_find_234 rfl (lv_at hl 1 rfl) ?_
                    obtain ⟨k_93, hk_93⟩ := va_plg hg0.1 e_71
                    refine va_get (D := (dC, dI)) (ci := 3) (v := .int 0) (C := RX3) (T := TX3) (N := 23) hx hb hts iX3_ hown hK hP k_93 hk_93 rfl 18 (by decide) (hts (.fieldLink RX3 163 "FieldLeavesModel" "isRoom" "Z") (by decide +kernel)) (fun _ h9 => h9) rfl dX3_find_235 ?_
                    subst eQ
                    exact W.zret (v := 0) hx hb hr rfl (fun t ht hW => ⟨⟨0, (), rfl, Or.inr ⟨rfl, tlS_none2 hTD (Nat.lt_of_lt_of_le (hTS.room.2 (show cI (fl202 g0) 18 = 0 from by rw [e_71]; rfl)) (lall_mono (by have h7 := clamp_int (i := j2) (by omega); omega)))⟩, fl202, hPI, ⟨(FR.tr hfrE24 (FR.tr hfrE202 hfr (fun _ h => h)) (fun _ h => h)), hKQ, fun lz h9 => by rw [tlS_none2 hTD (Nat.lt_of_lt_of_le (hTS.room.2 (show cI (fl202 g0) 18 = 0 from by rw [e_71]; rfl)) (lall_mono (by have h7 := clamp_int (i := j2) (by omega); omega)))] at h9; cases h9⟩, by rw [ht]; exact hP, hD⟩, hS.F ht⟩) hS.2.2 dX3_find_238
              · (refine hPI.a10E hg0 ?_; intro s1_94 s2_94 s3_94 s4_94 s5_94 s6_94 s7_94 pa_94 lm_94 s8_94 s9_94 s10_94 fm_94 s11_94 nm_94 s12_94 s13_94 s14_94 rm_94 s15_94 s16_94 s17_94 s18_94 e_94 fs1_94 fs2_94 fs3_94 fs4_94 fs5_94 fs6_94 fs7_94 flm_94 fs8_94 fs9_94 fs10_94 ffm_94 fs11_94 fnm_94 fs12_94 fs13_94 fs14_94 frm_94 fs15_94 fs16_94 fs17_94 fs18_94)
                obtain ⟨k_94, hk_94⟩ := va_plg hg0.1 e_94
                obtain rfl : s1_1 = s1_94 := hU _ _ fs1_1.1 fs1_94.1 (fs1_1.2.trans fs1_94.2.symm)
                obtain rfl : s2_1 = s2_94 := hU _ _ fs2_1.1 fs2_94.1 (fs2_1.2.trans fs2_94.2.symm)
                obtain rfl : s3_1 = s3_94 := hU _ _ fs3_1.1 fs3_94.1 (fs3_1.2.trans fs3_94.2.symm)
                obtain rfl : s4_1 = s4_94 := hU _ _ fs4_1.1 fs4_94.1 (fs4_1.2.trans fs4_94.2.symm)
                obtain rfl : s5_1 = s5_94 := hU _ _ fs5_1.1 fs5_94.1 (fs5_1.2.trans fs5_94.2.symm)
                obtain rfl : s6_1 = s6_94 := hU _ _ fs6_1.1 fs6_94.1 (fs6_1.2.trans fs6_94.2.symm)
                obtain rfl : s7_1 = s7_94 := hU _ _ fs7_1.1 fs7_94.1 (fs7_1.2.trans fs7_94.2.symm)
                obtain rfl : s8_1 = s8_94 := hU _ _ fs8_1.1 fs8_94.1 (fs8_1.2.trans fs8_94.2.symm)
                obtain rfl : s9_1 = s9_94 := hU _ _ fs9_1.1 fs9_94.1 (fs9_1.2.trans fs9_94.2.symm)
                obtain rfl : s10_1 = s10_94 := hU _ _ fs10_1.1 fs10_94.1 (fs10_1.2.trans fs10_94.2.symm)
                obtain rfl : s11_1 = s11_94 := hU _ _ fs11_1.1 fs11_94.1 (fs11_1.2.trans fs11_94.2.symm)
                obtain rfl : s12_1 = s12_94 := hU _ _ fs12_1.1 fs12_94.1 (fs12_1.2.trans fs12_94.2.symm)
                obtain rfl : s13_1 = s13_94 := hU _ _ fs13_1.1 fs13_94.1 (fs13_1.2.trans fs13_94.2.symm)
                obtain rfl : s14_1 = s14_94 := hU _ _ fs14_1.1 fs14_94.1 (fs14_1.2.trans fs14_94.2.symm)
                obtain rfl : s15_1 = s15_94 := hU _ _ fs15_1.1 fs15_94.1 (fs15_1.2.trans fs15_94.2.symm)
                obtain rfl : s16_1 = s16_94 := hU _ _ fs16_1.1 fs16_94.1 (fs16_1.2.trans fs16_94.2.symm)
                obtain rfl : s17_1 = s17_94 := hU _ _ fs17_1.1 fs17_94.1 (fs17_1.2.trans fs17_94.2.symm)
                obtain rfl : s18_1 = s18_94 := hU _ _ fs18_1.1 fs18_94.1 (fs18_1.2.trans fs18_94.2.symm)
                rw [show cI (fl202 g0) 18 = rm_94 from by rw [e_94]; rfl] at h18
                subst h18
                refine lv_iload_n hx hb dX3_find_202 rfl (lv_at hl 0 rfl) ?_
                refine lv_aload_n hx hb dX3_find_203 rfl (lv_at hl 1 rfl) ?_
                obtain ⟨k_95, hk_95⟩ := va_plg hg0.1 e_94
                refine va_get (D := (dC, dI)) (ci := 3) (v := .int fm_94) (C := RX3) (T := TX3) (N := 23) hx hb hts iX3_ hown hK hP k_95 hk_95 rfl 12 (by decide) (hts (.fieldLink RX3 167 "FieldLeavesModel" "foundMany" "I") (by decide +kernel)) (fun _ h9 => h9) rfl dX3_find_204 ?_
                refine lv_icmp_ge (tgt := 234) hx hb dX3_find_207 (by decide) (fun c_96 => ?_) (fun c_96 => ?_)
                · have c_96 := Int32.le_iff_toInt_le.mp c_96
                  refine lv_aload_n hx hb dX3_find_234 rfl (lv_at hl 1 rfl) ?_
                  obtain ⟨k_97, hk_97⟩ := va_plg hg0.1 e_94
                  refine va_get (D := (dC, dI)) (ci := 3) (v := .int 0) (C := RX3) (T := TX3) (N := 23) hx hb hts iX3_ hown hK hP k_97 hk_97 rfl 18 (by decide) (hts (.fieldLink RX3 163 "FieldLeavesModel" "isRoom" "Z") (by decide +kernel)) (fun _ h9 => h9) rfl dX3_find_235 ?_
                  subst eQ
                  exact W.zret (v := 0) hx hb hr rfl (fun t ht hW => ⟨⟨0, (), rfl, Or.inr ⟨rfl, tlS_none1 (by rw [hTD]; exact fun h9 => by cases h9)⟩, fl202, hPI, ⟨(FR.tr hfrE24 (FR.tr hfrE202 hfr (fun _ h => h)) (fun _ h => h)), hKQ, fun lz h9 => by rw [tlS_none1 (by rw [hTD]; exact fun h9 => by cases h9)] at h9; cases h9⟩, by rw [ht]; exact hP, hD⟩, hS.F ht⟩) hS.2.2 dX3_find_238
                · have c_96 := mt Int32.le_iff_toInt_le.mpr c_96
                  refine lv_aload_n hx hb dX3_find_210 rfl (lv_at hl 1 rfl) ?_
                  obtain ⟨k_98, hk_98⟩ := va_plg hg0.1 e_94
                  refine va_get (D := (dC, dI)) (ci := 3) (v := .int 0) (C := RX3) (T := TX3) (N := 23) hx hb hts iX3_ hown hK hP k_98 hk_98 rfl 18 (by decide) (hts (.fieldLink RX3 163 "FieldLeavesModel" "isRoom" "Z") (by decide +kernel)) (fun _ h9 => h9) rfl dX3_find_211 ?_
                  refine lv_if_eq (tgt := 234) hx hb dX3_find_214 (by decide) (fun _ => ?_) (fun c9 => absurd c9 (by decide))
                  refine lv_aload_n hx hb dX3_find_234 rfl (lv_at hl 1 rfl) ?_
                  obtain ⟨k_99, hk_99⟩ := va_plg hg0.1 e_94
                  refine va_get (D := (dC, dI)) (ci := 3) (v := .int 0) (C := RX3) (T := TX3) (N := 23) hx hb hts iX3_ hown hK hP k_99 hk_99 rfl 18 (by decide) (hts (.fieldLink RX3 163 "FieldLeavesModel" "isRoom" "Z") (by decide +kernel)) (fun _ h9 => h9) rfl dX3_find_235 ?_
                  subst eQ
                  exact W.zret (v := 0) hx hb hr rfl (fun t ht hW => ⟨⟨0, (), rfl, Or.inr ⟨rfl, tlS_none1 (by rw [hTD]; exact fun h9 => by cases h9)⟩, fl202, hPI, ⟨(FR.tr hfrE24 (FR.tr hfrE202 hfr (fun _ h => h)) (fun _ h => h)), hKQ, fun lz h9 => by rw [tlS_none1 (by rw [hTD]; exact fun h9 => by cases h9)] at h9; cases h9⟩, by rw [ht]; exact hP, hD⟩, hS.F ht⟩) hS.2.2 dX3_find_238
          exact loop_202 25 0 fl _ _ _  (by omega) (by omega) ⟨FR.rf, ⟨(show KQ2 f fl g0 from ⟨(by rw [e_56]; exact hk7), (by rw [e_56]; exact hk8)⟩), Or.inl ⟨lf, hfd.symm.trans (fd_end (by omega)), ⟨gF, hr21, (by rw [(show cI (fl g0) 12 = fm_56 from by rw [e_56]; rfl)]; exact hfm), hat⟩, by omega, (by rw [cl_0]; exact Or.inl ⟨(show cI (fl g0) 18 = 1 from by rw [e_56]; rfl), (show NLr kI kJ K L fl g0 [] from ⟨_, _, _, ⟨un_row hU fs12_1 e_60, un_row hU fs13_1 e_61, un_row hU fs14_1 e_62⟩, (LSv.nil (by rw [(show cI (fl g0) 14 = nm_56 from by rw [e_56]; rfl)]; exact hn14))⟩), Nat.zero_le _⟩)⟩⟩⟩ hPI hP hD hS hl
        · have c_59 := mt Int32.le_iff_toInt_le.mpr c_59
          refine lv_aload_n hx hb dX3_find_32 rfl (lv_at hl 1 rfl) ?_
          obtain ⟨k_100, hk_100⟩ := va_plg hg0.1 e_56
          refine va_get (D := (dC, dI)) (ci := 3) (v := .int 1) (C := RX3) (T := TX3) (N := 23) hx hb hts iX3_ hown hK hP k_100 hk_100 rfl 18 (by decide) (hts (.fieldLink RX3 163 "FieldLeavesModel" "isRoom" "Z") (by decide +kernel)) (fun _ h9 => h9) rfl dX3_find_33 ?_
          refine lv_if_eq (tgt := 200) hx hb dX3_find_36 (by decide) (fun c9 => absurd c9 (by decide)) (fun _ => ?_)
          refine lv_aload_n hx hb dX3_find_39 rfl (lv_at hl 1 rfl) ?_
          obtain ⟨k_101, hk_101⟩ := va_plg hg0.1 e_56
          refine va_get (D := (dC, dI)) (ci := 3) (v := .ref s11_1) (C := RX3) (T := TX3) (N := 23) hx hb hts iX3_ hown hK hP k_101 hk_101 rfl 13 (by decide) (hts (.fieldLink RX3 44 "FieldLeavesModel" "found" "[I") (by decide +kernel)) (fun _ h9 => h9) rfl dX3_find_40 ?_
          refine lv_iload_n hx hb dX3_find_43 rfl (lv_at hl 0 rfl) ?_
          obtain ⟨k_102, hk_102⟩ := va_plg fs11_1.1 eg_57
          have h_102 : vp_in i2 25 := (vp_in_iff.mpr (by constructor <;> omega))
          refine va_iald hx hb hK hP k_102 0 hk_102 rfl h_102 dX3_find_44 ?_
          refine lv_topi (fun z_102 ez_102 => ?_)
          have fz_102 := fg_57 _ (vp_lt h_102)
          rw [← ez_102] at fz_102
          have hdez_102 := congrArg Int32.toInt ez_102
          refine lv_istore_n (lv' := [(3, .int z_102), (2, .int i2), (0, .ref g0), (1, .int o0)]) hx hb dX3_find_45 rfl hl (by decide) rfl (fun ls hl => ?_)
          refine lv_bipush (v := 8) hx hb dX3_find_46 (by decide) ?_
          refine lv_istore (lv' := [(4, .int 8), (3, .int z_102), (2, .int i2), (0, .ref g0), (1, .int o0)]) hx hb dX3_find_48 hl (by decide) rfl (fun ls hl => ?_)
          have hfrE50 := hfr
          have loop_50 : ∀ (n : Nat) (i4 : Int32)   (fl50 : Nat → va_E) (H : Heap) (locs : List Loc) (ls : Array Slot), (8 ≤ i4.toInt ∧ i4.toInt ≤ 16) → (16 - i4.toInt).toNat < n → (FR (sK [10, 21, 22, 23, 24]) K L fl fl50 ∧ (KQ2 f fl50 g0 ∧ (cI (fl50 g0) 14).toInt = 0 ∧ ((cI (fl50 g0) 18 = 1 ∧ FLr kI K L fl50 g0 (sq (r_lk fC fF) lf (Int32.toNatClampNeg z_102) (i4.toInt - 8).toNat)) ∨ (cI (fl50 g0) 18 = 0 ∧ 24 < (sq (r_lk fC fF) lf (Int32.toNatClampNeg z_102) (i4.toInt - 8).toNat).length)))) → PR kI kJ kZ K L fl50 → va_P (dC, dI) vwCl (va_pl L fl50) H → va_D A (va_pl L fl50) → va_S A s.heap H locs → lv_has ls 6 [(4, .int i4), (3, .int z_102), (2, .int i2), (0, .ref g0), (1, .int o0)] → W p l e (headSpec wsX3_find ({ frames := 2, cells := 0, slots := 0, locals := 50 } : Room)).room s m (([.ref g0, .int o0] : List Value).toArray) below meth c H locs 0 0 Q0 (F0 m 50 ls []) := by
            intro n
            induction n with
            | zero => intro i4 fl50 H locs ls  _ h9; exact absurd h9 (Nat.not_lt_zero _)
            | succ n ih_50 =>
              intro i4 fl50 H locs ls  hI hM hFN hPI hP hD hS hl
              obtain ⟨hfr, hFN⟩ := hFN
              have eq_103 := (hfr s1_1 fs1_1.1 (by rw [fs1_1.2]; rfl)).trans eq_48
              have eq_104 := (hfr s2_1 fs2_1.1 (by rw [fs2_1.2]; rfl)).trans eq_49
              have eq_105 := (hfr s3_1 fs3_1.1 (by rw [fs3_1.2]; rfl)).trans eq_50
              have eq_106 := (hfr s4_1 fs4_1.1 (by rw [fs4_1.2]; rfl)).trans eq_51
              have eq_107 := (hfr s5_1 fs5_1.1 (by rw [fs5_1.2]; rfl)).trans eq_52
              have eq_108 := (hfr s8_1 fs8_1.1 (by rw [fs8_1.2]; rfl)).trans eq_53
              have eq_109 := (hfr s9_1 fs9_1.1 (by rw [fs9_1.2]; rfl)).trans eq_54
              have eq_110 := (hfr s10_1 fs10_1.1 (by rw [fs10_1.2]; rfl)).trans eq_55
              obtain ⟨hKQ, h14, hFD⟩ := hFN
              (refine hPI.a10E hg0 ?_; intro s1_111 s2_111 s3_111 s4_111 s5_111 s6_111 s7_111 pa_111 lm_111 s8_111 s9_111 s10_111 fm_111 s11_111 nm_111 s12_111 s13_111 s14_111 rm_111 s15_111 s16_111 s17_111 s18_111 e_111 fs1_111 fs2_111 fs3_111 fs4_111 fs5_111 fs6_111 fs7_111 flm_111 fs8_111 fs9_111 fs10_111 ffm_111 fs11_111 fnm_111 fs12_111 fs13_111 fs14_111 frm_111 fs15_111 fs16_111 fs17_111 fs18_111)
              obtain ⟨k_111, hk_111⟩ := va_plg hg0.1 e_111
              obtain rfl : s1_1 = s1_111 := hU _ _ fs1_1.1 fs1_111.1 (fs1_1.2.trans fs1_111.2.symm)
              obtain rfl : s2_1 = s2_111 := hU _ _ fs2_1.1 fs2_111.1 (fs2_1.2.trans fs2_111.2.symm)
              obtain rfl : s3_1 = s3_111 := hU _ _ fs3_1.1 fs3_111.1 (fs3_1.2.trans fs3_111.2.symm)
              obtain rfl : s4_1 = s4_111 := hU _ _ fs4_1.1 fs4_111.1 (fs4_1.2.trans fs4_111.2.symm)
              obtain rfl : s5_1 = s5_111 := hU _ _ fs5_1.1 fs5_111.1 (fs5_1.2.trans fs5_111.2.symm)
              obtain rfl : s6_1 = s6_111 := hU _ _ fs6_1.1 fs6_111.1 (fs6_1.2.trans fs6_111.2.symm)
              obtain rfl : s7_1 = s7_111 := hU _ _ fs7_1.1 fs7_111.1 (fs7_1.2.trans fs7_111.2.symm)
              obtain rfl : s8_1 = s8_111 := hU _ _ fs8_1.1 fs8_111.1 (fs8_1.2.trans fs8_111.2.symm)
              obtain rfl : s9_1 = s9_111 := hU _ _ fs9_1.1 fs9_111.1 (fs9_1.2.trans fs9_111.2.symm)
              obtain rfl : s10_1 = s10_111 := hU _ _ fs10_1.1 fs10_111.1 (fs10_1.2.trans fs10_111.2.symm)
              obtain rfl : s11_1 = s11_111 := hU _ _ fs11_1.1 fs11_111.1 (fs11_1.2.trans fs11_111.2.symm)
              obtain rfl : s12_1 = s12_111 := hU _ _ fs12_1.1 fs12_111.1 (fs12_1.2.trans fs12_111.2.symm)
              obtain rfl : s13_1 = s13_111 := hU _ _ fs13_1.1 fs13_111.1 (fs13_1.2.trans fs13_111.2.symm)
              obtain rfl : s14_1 = s14_111 := hU _ _ fs14_1.1 fs14_111.1 (fs14_1.2.trans fs14_111.2.symm)
              obtain rfl : s15_1 = s15_111 := hU _ _ fs15_1.1 fs15_111.1 (fs15_1.2.trans fs15_111.2.symm)
              obtain rfl : s16_1 = s16_111 := hU _ _ fs16_1.1 fs16_111.1 (fs16_1.2.trans fs16_111.2.symm)
              obtain rfl : s17_1 = s17_111 := hU _ _ fs17_1.1 fs17_111.1 (fs17_1.2.trans fs17_111.2.symm)
              obtain rfl : s18_1 = s18_111 := hU _ _ fs18_1.1 fs18_111.1 (fs18_1.2.trans fs18_111.2.symm)
              rw [show cI (fl50 g0) 18 = rm_111 from by rw [e_111]; rfl] at hFD
              have hk7 : pa_111 = cI (f g0) 7 := by rw [← hKQ.1, e_111]; rfl
              have hk8 : lm_111 = cI (f g0) 8 := by rw [← hKQ.2, e_111]; rfl
              rcases hFD with ⟨h18, ⟨gG, hr21, hfm2, hat2⟩⟩ | ⟨h18, hov⟩
              · subst h18
                have hn14 : nm_111.toInt = 0 := by rw [← (show cI (fl50 g0) 14 = nm_111 from by rw [e_111]; rfl)]; exact h14
                have eg_112 := hr21 s11_1 fs11_1
                have fg_112 := (hPI.a21 fs11_1).of eg_112
                rw [show cI (fl50 g0) 12 = fm_111 from by rw [e_111]; rfl] at hfm2
                have hF2 : fm_111.toInt = (((sq (r_lk fC fF) lf (Int32.toNatClampNeg z_102) (i4.toInt - 8).toNat)).length : Int) ∧ ∀ i t, ((sq (r_lk fC fF) lf (Int32.toNatClampNeg z_102) (i4.toInt - 8).toNat))[i]? = some t → (fun i => some (Int32.toNatClampNeg (gG i))) i = some t := ⟨hfm2, hat2⟩
                refine lv_iload hx hb dX3_find_50 (lv_at hl 0 rfl) ?_
                refine lv_bipush (v := 16) hx hb dX3_find_52 (by decide) ?_
                refine lv_icmp_ge (tgt := 194) hx hb dX3_find_54 (by decide) (fun c_113 => ?_) (fun c_113 => ?_)
                · have c_113 := Int32.le_iff_toInt_le.mp c_113
                  obtain ⟨i_114, ei_114⟩ : ∃ y : Int32, y = i2 + 1 := ⟨_, rfl⟩
                  refine lv_iinc (v := i_114) (lv' := [(2, .int i_114), (4, .int i4), (3, .int z_102), (0, .ref g0), (1, .int o0)]) hx hb dX3_find_194 hl (k := 2) rfl (by rw [ei_114]; rfl) (by decide) rfl (fun ls hl => ?_)
                  have ki_114 := inc_toInt ei_114 (by omega)
                  refine lv_goto (tgt := 24) hx hb dX3_find_197 (by decide) ?_
                  exact ih_24 i_114 fl50 _ _ _  (by omega) (by omega) ⟨(FR.tr hfrE50 hfr (fun _ h => h)), ⟨(show KQ2 f fl50 g0 from ⟨(by rw [e_111]; exact hk7), (by rw [e_111]; exact hk8)⟩), (by rw [(show cI (fl50 g0) 14 = nm_111 from by rw [e_111]; rfl)]; exact hn14), Or.inl ⟨(show cI (fl50 g0) 18 = 1 from by rw [e_111]; rfl), _, ⟨gG, hr21, (by rw [(show cI (fl50 g0) 12 = fm_111 from by rw [e_111]; rfl)]; exact hfm2), hat2⟩, (by rw [show (i4.toInt - 8).toNat = 8 by omega, sq_8]; exact (fd_step1 (by omega) (by omega) (fs_at hF (by omega) (by omega) (show (fun i => some (Int32.toNatClampNeg (gF i))) (Int32.toNatClampNeg i2) = some (Int32.toNatClampNeg z_102) from by rw [ez_102])) (by rw [← sq_8, ← show (i4.toInt - 8).toNat = 8 by omega]; omega) ki_114).trans hfd)⟩⟩⟩ hPI hP hD hS (lv_sub hl [0, 3, 4] rfl)
                · have c_113 := mt Int32.le_iff_toInt_le.mpr c_113
                  refine lv_iload hx hb dX3_find_57 (lv_at hl 0 rfl) ?_
                  refine va_calli (va_runS (As := [.int i4]) (rest := []) ⟨hx, hb, hml, hown, hts⟩ (c_X3_isLink l dC dI TT H.size i4) (va_cwS 1 hts gX3_find_X3_isLink rfl rfl rfl (by decide +kernel) ⟨Nat.le_of_ble_eq_true rfl, Nat.le_of_ble_eq_true rfl⟩) (pr_S (ws := []) (wA := []) (tys := []) vp_nil (hK.sub [] rfl) vd_nil hst hS (ro_free hS hA)) rfl rfl hl.1 rfl (lv_room (Nat.le_of_ble_eq_true rfl)) dX3_find_59 ⟨Nat.le_of_ble_eq_true rfl, Nat.le_of_ble_eq_true rfl⟩) hS (fun q _ h => (ro_free hS hA) q h) (ro_free hS hA) (fun r_115 u t H1 locs ht hvm hw hB hz1 hk1 hS => ?_)
                  have hP := ro_keep hP hk1
                  generalize H1 = H at hP hS ⊢
                  rcases hw with ⟨rfl, hp_116⟩ | ⟨rfl, hp_116⟩
                  · refine lv_if_eq (tgt := 95) hx hb dX3_find_62 (by decide) (fun c9 => absurd c9 (by decide)) (fun _ => ?_)
                    refine lv_aload_n hx hb dX3_find_65 rfl (lv_at hl 3 rfl) ?_
                    obtain ⟨k_117, hk_117⟩ := va_plg hg0.1 e_111
                    refine va_get (D := (dC, dI)) (ci := 3) (v := .ref s2_1) (C := RX3) (T := TX3) (N := 23) hx hb hts iX3_ hown hK hP k_117 hk_117 rfl 1 (by decide) (hts (.fieldLink RX3 13 "FieldLeavesModel" "classOf" "[I") (by decide +kernel)) (fun _ h9 => h9) rfl dX3_find_66 ?_
                    refine lv_iload_n hx hb dX3_find_69 rfl (lv_at hl 1 rfl) ?_
                    obtain ⟨k_118, hk_118⟩ := va_plg fs2_1.1 eq_104
                    have h_118 : vp_in z_102 6400 := (vp_in_iff.mpr (by constructor <;> omega))
                    refine va_iald hx hb hK hP k_118 0 hk_118 rfl h_118 dX3_find_70 ?_
                    refine lv_topi (fun z_118 ez_118 => ?_)
                    have hdez_118 := congrArg Int32.toInt ez_118
                    refine lv_iload hx hb dX3_find_71 (lv_at hl 0 rfl) ?_
                    refine va_calli (va_runS (As := [.int z_118, .int i4]) (rest := []) ⟨hx, hb, hml, hown, hts⟩ (q_X3_has l dC dI TT H.size z_118 i4) (va_cwS 2 hts gX3_find_X3_has rfl rfl rfl (by decide +kernel) ⟨Nat.le_of_ble_eq_true rfl, Nat.le_of_ble_eq_true rfl⟩) (pr_S (ws := []) (wA := []) (tys := []) vp_nil (hK.sub [] rfl) vd_nil hst hS (ro_free hS hA)) rfl rfl hl.1 rfl (lv_room (Nat.le_of_ble_eq_true rfl)) dX3_find_73 ⟨Nat.le_of_ble_eq_true rfl, Nat.le_of_ble_eq_true rfl⟩) hS (fun q _ h => (ro_free hS hA) q h) (ro_free hS hA) (fun r_119 u t H1 locs ht hvm hw hB hz1 hk1 hS => ?_)
                    have hP := ro_keep hP hk1
                    generalize H1 = H at hP hS ⊢
                    rcases hw with ⟨rfl, hp_120⟩ | ⟨rfl, hp_120⟩
                    · refine lv_if_eq (tgt := 95) hx hb dX3_find_76 (by decide) (fun c9 => absurd c9 (by decide)) (fun _ => ?_)
                      refine lv_aload_n hx hb dX3_find_79 rfl (lv_at hl 3 rfl) ?_
                      obtain ⟨k_121, hk_121⟩ := va_plg hg0.1 e_111
                      refine va_get (D := (dC, dI)) (ci := 3) (v := .ref s3_1) (C := RX3) (T := TX3) (N := 23) hx hb hts iX3_ hown hK hP k_121 hk_121 rfl 2 (by decide) (hts (.fieldLink RX3 17 "FieldLeavesModel" "field" "[J") (by decide +kernel)) (fun _ h9 => h9) rfl dX3_find_80 ?_
                      refine lv_bipush (v := 17) hx hb dX3_find_83 (by decide) ?_
                      refine lv_iload_n hx hb dX3_find_85 rfl (lv_at hl 1 rfl) ?_
                      refine lv_imul hx hb dX3_find_86 ?_
                      refine lv_topi (fun z_122 ez_122 => ?_)
                      have kz_122 := mul17 ez_122 (by omega) (by omega)
                      refine lv_iload hx hb dX3_find_87 (lv_at hl 0 rfl) ?_
                      refine lv_iadd hx hb dX3_find_89 ?_
                      refine lv_topi (fun z_123 ez_123 => ?_)
                      have kz_123 := add_toInt ez_123 (by omega) (by omega)
                      obtain ⟨k_124, hk_124⟩ := va_plg fs3_1.1 eq_105
                      have h_124 : vp_in z_123 108800 := (vp_in_iff.mpr (by constructor <;> omega))
                      refine va_lald hx hb hK hP k_124 1 hk_124 rfl h_124 dX3_find_90 ?_
                      refine lv_topl (fun z_124 ez_124 => ?_)
                      have fz_124 := rgF.at fg13 (o := z_102) (f := i4) (w := z_123) (by constructor <;> omega) (by omega) (by omega)
                      rw [← ez_124] at fz_124
                      have er_125 := ez_124
                      rw [idx_clamp (o := z_102) (f := i4) (w := z_123) (by omega) (by omega) (by omega)] at er_125
                      refine lv_l2i hx hb dX3_find_91 rfl ?_
                      refine lv_topi (fun z_126 ez_126 => ?_)
                      have kz_126 := l2i_sm ez_126 (by omega) (by omega)
                      have hq_t_127 : z_124.toInt.toNat = Int32.toNatClampNeg z_126 := by show _ = z_126.toInt.toNat; rw [kz_126]
                      refine lv_goto (tgt := 96) hx hb dX3_find_92 (by decide) ?_
                      refine lv_istore (lv' := [(5, .int z_126), (4, .int i4), (3, .int z_102), (2, .int i2), (0, .ref g0), (1, .int o0)]) hx hb dX3_find_96 hl (by decide) rfl (fun ls hl => ?_)
                      refine lv_iload hx hb dX3_find_98 (lv_at hl 0 rfl) ?_
                      refine lv_iconst (v := (-1)) hx hb dX3_find_100 (by decide) ?_
                      refine lv_icmp_eq (tgt := 188) hx hb dX3_find_101 (by decide) (fun c_128 => ?_) (fun c_128 => ?_)
                      · have c_128 := congrArg Int32.toInt c_128
                        obtain ⟨i_129, ei_129⟩ : ∃ y : Int32, y = i4 + 1 := ⟨_, rfl⟩
                        refine lv_iinc (v := i_129) (lv' := [(4, .int i_129), (5, .int z_126), (3, .int z_102), (2, .int i2), (0, .ref g0), (1, .int o0)]) hx hb dX3_find_188 hl (k := 1) rfl (by rw [ei_129]; rfl) (by decide) rfl (fun ls hl => ?_)
                        have ki_129 := inc_toInt ei_129 (by omega)
                        refine lv_goto (tgt := 50) hx hb dX3_find_191 (by decide) ?_
                        exact ih_50 i_129 fl50 _ _ _  (by omega) (by omega) ⟨hfr, ⟨(show KQ2 f fl50 g0 from ⟨(by rw [e_111]; exact hk7), (by rw [e_111]; exact hk8)⟩), (by rw [(show cI (fl50 g0) 14 = nm_111 from by rw [e_111]; rfl)]; exact hn14), Or.inl ⟨(show cI (fl50 g0) 18 = 1 from by rw [e_111]; rfl), (by rw [sq_step (by omega) ki_129, r_lk_nov er_125 (by omega), ad_none]; exact ⟨gG, hr21, (by rw [(show cI (fl50 g0) 12 = fm_111 from by rw [e_111]; rfl)]; exact hfm2), hat2⟩)⟩⟩⟩ hPI hP hD hS (lv_sub hl [0, 2, 3, 4, 5] rfl)
                      · have c_128 := mt Int32.toInt_inj.mp c_128
                        refine lv_aload_n hx hb dX3_find_104 rfl (lv_at hl 4 rfl) ?_
                        refine lv_iload hx hb dX3_find_105 (lv_at hl 0 rfl) ?_
                        obtain ⟨k_130, hk_130⟩ := va_plg hg0.1 e_111
                        refine va_calli (va_runV (b := g0) (As := [.int z_126]) (rest := []) ⟨hx, hb, hml, hown, hts⟩ (v_X3_numberOf l dC dI TT H.size kI kJ kZ K L fl50 hPI g0 hg0 z_126 (by constructor <;> omega) hU (sq (r_lk fC fF) lf (Int32.toNatClampNeg z_102) (i4.toInt - 8).toNat) ⟨gG, hr21, (by rw [(show cI (fl50 g0) 12 = fm_111 from by rw [e_111]; rfl)]; exact hfm2), hat2⟩) (cwV 1 hts gX3_find_X3_numberOf rfl rfl rfl (by decide +kernel) ⟨Nat.le_of_ble_eq_true rfl, Nat.le_of_ble_eq_true rfl⟩) ⟨pr_blind, va_recv hK hP (ci := 3) rfl hk_130, (pr_S (ws := va_pl L fl50) (wA := []) (tys := [(kI, .int), (kJ, .long), (kZ, .boolean)]) hP hK vd_nil hst hS (ro_free hS hA)).2⟩ rfl rfl hl.1 rfl (lv_room (Nat.le_of_ble_eq_true rfl)) dX3_find_107 ⟨Nat.le_of_ble_eq_true rfl, Nat.le_of_ble_eq_true rfl⟩) hS (fun q _ h => (ro_free hS hA) q h) (ro_free hS hA) (fun r_131 u t H1 locs ht hvm hw hB hz1 hk1 hS => ?_)
                        have hP := ro_keep hP hk1
                        generalize H1 = H at hP hS ⊢
                        have hq_132 := hw
                        refine lv_bipush (v := (-4)) hx hb dX3_find_110 (by decide) ?_
                        refine lv_icmp_ne (tgt := 188) hx hb dX3_find_112 (by decide) (fun c_133 => ?_) (fun c_133 => ?_)
                        · have c_133 := mt Int32.toInt_inj.mp c_133
                          obtain ⟨i_134, ei_134⟩ : ∃ y : Int32, y = i4 + 1 := ⟨_, rfl⟩
                          refine lv_iinc (v := i_134) (lv' := [(4, .int i_134), (5, .int z_126), (3, .int z_102), (2, .int i2), (0, .ref g0), (1, .int o0)]) hx hb dX3_find_188 hl (k := 1) rfl (by rw [ei_134]; rfl) (by decide) rfl (fun ls hl => ?_)
                          have ki_134 := inc_toInt ei_134 (by omega)
                          refine lv_goto (tgt := 50) hx hb dX3_find_191 (by decide) ?_
                          exact ih_50 i_134 fl50 _ _ _  (by omega) (by omega) ⟨hfr, ⟨(show KQ2 f fl50 g0 from ⟨(by rw [e_111]; exact hk7), (by rw [e_111]; exact hk8)⟩), (by rw [(show cI (fl50 g0) 14 = nm_111 from by rw [e_111]; rfl)]; exact hn14), Or.inl ⟨(show cI (fl50 g0) 18 = 1 from by rw [e_111]; rfl), (by rw [sq_step (by omega) ki_134, r_lk_val (by omega) (hs_iff.mpr (by rw [← ez_118]; exact hp_120)) er_125 (by omega) hq_t_127, ad_old (Classical.byContradiction (fun h9 => absurd ((nbr_mem hq_132 (by omega)).mpr h9) (by omega)))]; exact ⟨gG, hr21, (by rw [(show cI (fl50 g0) 12 = fm_111 from by rw [e_111]; rfl)]; exact hfm2), hat2⟩)⟩⟩⟩ hPI hP hD hS (lv_sub hl [0, 2, 3, 4, 5] rfl)
                        · have c_133 := congrArg Int32.toInt c_133
                          refine lv_aload_n hx hb dX3_find_115 rfl (lv_at hl 4 rfl) ?_
                          refine lv_aload_n hx hb dX3_find_116 rfl (lv_at hl 4 rfl) ?_
                          obtain ⟨k_135, hk_135⟩ := va_plg hg0.1 e_111
                          refine va_get (D := (dC, dI)) (ci := 3) (v := .int 1) (C := RX3) (T := TX3) (N := 23) hx hb hts iX3_ hown hK hP k_135 hk_135 rfl 18 (by decide) (hts (.fieldLink RX3 163 "FieldLeavesModel" "isRoom" "Z") (by decide +kernel)) (fun _ h9 => h9) rfl dX3_find_117 ?_
                          refine lv_if_eq (tgt := 136) hx hb dX3_find_120 (by decide) (fun c9 => absurd c9 (by decide)) (fun _ => ?_)
                          refine lv_aload_n hx hb dX3_find_123 rfl (lv_at hl 4 rfl) ?_
                          obtain ⟨k_136, hk_136⟩ := va_plg hg0.1 e_111
                          refine va_get (D := (dC, dI)) (ci := 3) (v := .int fm_111) (C := RX3) (T := TX3) (N := 23) hx hb hts iX3_ hown hK hP k_136 hk_136 rfl 12 (by decide) (hts (.fieldLink RX3 167 "FieldLeavesModel" "foundMany" "I") (by decide +kernel)) (fun _ h9 => h9) rfl dX3_find_124 ?_
                          refine lv_bipush (v := 24) hx hb dX3_find_127 (by decide) ?_
                          refine lv_icmp_ge (tgt := 136) hx hb dX3_find_129 (by decide) (fun c_137 => ?_) (fun c_137 => ?_)
                          · have c_137 := Int32.le_iff_toInt_le.mp c_137
                            refine lv_iconst (v := 0) hx hb dX3_find_136 (by decide) ?_
                            obtain ⟨k_138, hk_138⟩ := va_plg hg0.1 e_111
                            have hD9 := hD
                            refine va_put (D := (dC, dI)) (ci := 3) (v := .int 0) (ty := .boolean) (C := RX3) (T := TX3) (N := 23) hx hb hts iX3_ tyX3 tyX3_ok nmX3 hown hK hP hD hS k_138 hk_138 rfl 18 (by decide) (hts (.fieldLink RX3 163 "FieldLeavesModel" "isRoom" "Z") (by decide +kernel)) (fun _ h9 => h9) rfl (by decide +kernel) rfl rfl (Nat.le_of_ble_eq_true rfl) dX3_find_137 (fun H locs hP hD hS => ?_)
                            have hP : va_P (dC, dI) vwCl (va_pl L (va_up fl50 g0 (.inr (3, [.ref s1_1, .ref s2_1, .ref s3_1, .ref s4_1, .ref s5_1, .ref s6_1, .ref s7_1, .int pa_111, .int lm_111, .ref s8_1, .ref s9_1, .ref s10_1, .int fm_111, .ref s11_1, .int nm_111, .ref s12_1, .ref s13_1, .ref s14_1, .int 0, .ref s15_1, .ref s16_1, .ref s17_1, .ref s18_1])))) H := by rw [← va_pls hD9 hg0.1 hk_138 _]; exact hP
                            have hD : va_D A (va_pl L (va_up fl50 g0 (.inr (3, [.ref s1_1, .ref s2_1, .ref s3_1, .ref s4_1, .ref s5_1, .ref s6_1, .ref s7_1, .int pa_111, .int lm_111, .ref s8_1, .ref s9_1, .ref s10_1, .int fm_111, .ref s11_1, .int nm_111, .ref s12_1, .ref s13_1, .ref s14_1, .int 0, .ref s15_1, .ref s16_1, .ref s17_1, .ref s18_1])))) := by rw [← va_pls hD9 hg0.1 hk_138 _]; exact hD
                            have hPI := hPI.put (e := .inr (3, [.ref s1_1, .ref s2_1, .ref s3_1, .ref s4_1, .ref s5_1, .ref s6_1, .ref s7_1, .int pa_111, .int lm_111, .ref s8_1, .ref s9_1, .ref s10_1, .int fm_111, .ref s11_1, .int nm_111, .ref s12_1, .ref s13_1, .ref s14_1, .int 0, .ref s15_1, .ref s16_1, .ref s17_1, .ref s18_1])) hg0 ⟨s1_1, s2_1, s3_1, s4_1, s5_1, s6_1, s7_1, pa_111, lm_111, s8_1, s9_1, s10_1, fm_111, s11_1, nm_111, s12_1, s13_1, s14_1, 0, s15_1, s16_1, s17_1, s18_1, rfl, fs1_1, fs2_1, fs3_1, fs4_1, fs5_1, fs6_1, fs7_1, flm_111, fs8_1, fs9_1, fs10_1, ffm_111, fs11_1, fnm_111, fs12_1, fs13_1, fs14_1, (Or.inr rfl), fs15_1, fs16_1, fs17_1, fs18_1⟩
                            have es_f_139 : va_up fl50 g0 (.inr (3, [.ref s1_1, .ref s2_1, .ref s3_1, .ref s4_1, .ref s5_1, .ref s6_1, .ref s7_1, .int pa_111, .int lm_111, .ref s8_1, .ref s9_1, .ref s10_1, .int fm_111, .ref s11_1, .int nm_111, .ref s12_1, .ref s13_1, .ref s14_1, .int 0, .ref s15_1, .ref s16_1, .ref s17_1, .ref s18_1])) g0 = .inr (3, [.ref s1_1, .ref s2_1, .ref s3_1, .ref s4_1, .ref s5_1, .ref s6_1, .ref s7_1, .int pa_111, .int lm_111, .ref s8_1, .ref s9_1, .ref s10_1, .int fm_111, .ref s11_1, .int nm_111, .ref s12_1, .ref s13_1, .ref s14_1, .int 0, .ref s15_1, .ref s16_1, .ref s17_1, .ref s18_1]) := va_up_self _ _ _
                            have eq_140 := (va_up_ne fl50 (.inr (3, [.ref s1_1, .ref s2_1, .ref s3_1, .ref s4_1, .ref s5_1, .ref s6_1, .ref s7_1, .int pa_111, .int lm_111, .ref s8_1, .ref s9_1, .ref s10_1, .int fm_111, .ref s11_1, .int nm_111, .ref s12_1, .ref s13_1, .ref s14_1, .int 0, .ref s15_1, .ref s16_1, .ref s17_1, .ref s18_1])) (isr_ne fs1_1 hg0 (by decide))).trans eq_103
                            have eq_141 := (va_up_ne fl50 (.inr (3, [.ref s1_1, .ref s2_1, .ref s3_1, .ref s4_1, .ref s5_1, .ref s6_1, .ref s7_1, .int pa_111, .int lm_111, .ref s8_1, .ref s9_1, .ref s10_1, .int fm_111, .ref s11_1, .int nm_111, .ref s12_1, .ref s13_1, .ref s14_1, .int 0, .ref s15_1, .ref s16_1, .ref s17_1, .ref s18_1])) (isr_ne fs2_1 hg0 (by decide))).trans eq_104
                            have eq_142 := (va_up_ne fl50 (.inr (3, [.ref s1_1, .ref s2_1, .ref s3_1, .ref s4_1, .ref s5_1, .ref s6_1, .ref s7_1, .int pa_111, .int lm_111, .ref s8_1, .ref s9_1, .ref s10_1, .int fm_111, .ref s11_1, .int nm_111, .ref s12_1, .ref s13_1, .ref s14_1, .int 0, .ref s15_1, .ref s16_1, .ref s17_1, .ref s18_1])) (isr_ne fs3_1 hg0 (by decide))).trans eq_105
                            have eq_143 := (va_up_ne fl50 (.inr (3, [.ref s1_1, .ref s2_1, .ref s3_1, .ref s4_1, .ref s5_1, .ref s6_1, .ref s7_1, .int pa_111, .int lm_111, .ref s8_1, .ref s9_1, .ref s10_1, .int fm_111, .ref s11_1, .int nm_111, .ref s12_1, .ref s13_1, .ref s14_1, .int 0, .ref s15_1, .ref s16_1, .ref s17_1, .ref s18_1])) (isr_ne fs4_1 hg0 (by decide))).trans eq_106
                            have eq_144 := (va_up_ne fl50 (.inr (3, [.ref s1_1, .ref s2_1, .ref s3_1, .ref s4_1, .ref s5_1, .ref s6_1, .ref s7_1, .int pa_111, .int lm_111, .ref s8_1, .ref s9_1, .ref s10_1, .int fm_111, .ref s11_1, .int nm_111, .ref s12_1, .ref s13_1, .ref s14_1, .int 0, .ref s15_1, .ref s16_1, .ref s17_1, .ref s18_1])) (isr_ne fs5_1 hg0 (by decide))).trans eq_107
                            have eq_145 := (va_up_ne fl50 (.inr (3, [.ref s1_1, .ref s2_1, .ref s3_1, .ref s4_1, .ref s5_1, .ref s6_1, .ref s7_1, .int pa_111, .int lm_111, .ref s8_1, .ref s9_1, .ref s10_1, .int fm_111, .ref s11_1, .int nm_111, .ref s12_1, .ref s13_1, .ref s14_1, .int 0, .ref s15_1, .ref s16_1, .ref s17_1, .ref s18_1])) (isr_ne fs8_1 hg0 (by decide))).trans eq_108
                            have eq_146 := (va_up_ne fl50 (.inr (3, [.ref s1_1, .ref s2_1, .ref s3_1, .ref s4_1, .ref s5_1, .ref s6_1, .ref s7_1, .int pa_111, .int lm_111, .ref s8_1, .ref s9_1, .ref s10_1, .int fm_111, .ref s11_1, .int nm_111, .ref s12_1, .ref s13_1, .ref s14_1, .int 0, .ref s15_1, .ref s16_1, .ref s17_1, .ref s18_1])) (isr_ne fs9_1 hg0 (by decide))).trans eq_109
                            have eq_147 := (va_up_ne fl50 (.inr (3, [.ref s1_1, .ref s2_1, .ref s3_1, .ref s4_1, .ref s5_1, .ref s6_1, .ref s7_1, .int pa_111, .int lm_111, .ref s8_1, .ref s9_1, .ref s10_1, .int fm_111, .ref s11_1, .int nm_111, .ref s12_1, .ref s13_1, .ref s14_1, .int 0, .ref s15_1, .ref s16_1, .ref s17_1, .ref s18_1])) (isr_ne fs10_1 hg0 (by decide))).trans eq_110
                            have eq_148 := (va_up_ne fl50 (.inr (3, [.ref s1_1, .ref s2_1, .ref s3_1, .ref s4_1, .ref s5_1, .ref s6_1, .ref s7_1, .int pa_111, .int lm_111, .ref s8_1, .ref s9_1, .ref s10_1, .int fm_111, .ref s11_1, .int nm_111, .ref s12_1, .ref s13_1, .ref s14_1, .int 0, .ref s15_1, .ref s16_1, .ref s17_1, .ref s18_1])) (isr_ne fs11_1 hg0 (by decide))).trans eg_112
                            have hfr := fr_up (S := (sK [10, 21, 22, 23, 24])) (e := .inr (3, [.ref s1_1, .ref s2_1, .ref s3_1, .ref s4_1, .ref s5_1, .ref s6_1, .ref s7_1, .int pa_111, .int lm_111, .ref s8_1, .ref s9_1, .ref s10_1, .int fm_111, .ref s11_1, .int nm_111, .ref s12_1, .ref s13_1, .ref s14_1, .int 0, .ref s15_1, .ref s16_1, .ref s17_1, .ref s18_1])) hfr hg0 (by decide)
                            generalize hg_f_139 : va_up fl50 g0 (.inr (3, [.ref s1_1, .ref s2_1, .ref s3_1, .ref s4_1, .ref s5_1, .ref s6_1, .ref s7_1, .int pa_111, .int lm_111, .ref s8_1, .ref s9_1, .ref s10_1, .int fm_111, .ref s11_1, .int nm_111, .ref s12_1, .ref s13_1, .ref s14_1, .int 0, .ref s15_1, .ref s16_1, .ref s17_1, .ref s18_1])) = f_139 at hP hD hPI es_f_139 eq_140 eq_141 eq_142 eq_143 eq_144 eq_145 eq_146 eq_147 eq_148 hfr
                            refine lv_aload_n hx hb dX3_find_140 rfl (lv_at hl 4 rfl) ?_
                            obtain ⟨k_149, hk_149⟩ := va_plg hg0.1 es_f_139
                            refine va_get (D := (dC, dI)) (ci := 3) (v := .ref s11_1) (C := RX3) (T := TX3) (N := 23) hx hb hts iX3_ hown hK hP k_149 hk_149 rfl 13 (by decide) (hts (.fieldLink RX3 44 "FieldLeavesModel" "found" "[I") (by decide +kernel)) (fun _ h9 => h9) rfl dX3_find_141 ?_
                            refine lv_aload_n hx hb dX3_find_144 rfl (lv_at hl 4 rfl) ?_
                            obtain ⟨k_150, hk_150⟩ := va_plg hg0.1 es_f_139
                            refine va_get (D := (dC, dI)) (ci := 3) (v := .int fm_111) (C := RX3) (T := TX3) (N := 23) hx hb hts iX3_ hown hK hP k_150 hk_150 rfl 12 (by decide) (hts (.fieldLink RX3 167 "FieldLeavesModel" "foundMany" "I") (by decide +kernel)) (fun _ h9 => h9) rfl dX3_find_145 ?_
                            refine lv_bipush (v := 24) hx hb dX3_find_148 (by decide) ?_
                            refine lv_icmp_ge (tgt := 160) hx hb dX3_find_150 (by decide) (fun c_151 => ?_) (fun c_151 => ?_)
                            · have c_151 := Int32.le_iff_toInt_le.mp c_151
                              refine lv_bipush (v := 24) hx hb dX3_find_160 (by decide) ?_
                              refine lv_iload hx hb dX3_find_162 (lv_at hl 0 rfl) ?_
                              obtain ⟨k_152, hk_152⟩ := va_plg fs11_1.1 eq_148
                              have h_152 : vp_in 24 25 := (vp_in_iff.mpr (by decide))
                              have fw_152 := updS (P := fun v => 0 ≤ v.toInt ∧ v.toInt < 6400) (k := Int32.toNatClampNeg 24) (v := z_126) fg_112 (by omega)
                              have hD9 := hD
                              refine va_iast hx hb hK hP hD hS k_152 0 hk_152 rfl h_152 dX3_find_164 (fun H locs hP hD hS => ?_)
                              have hP : va_P (dC, dI) vwCl (va_pl L (va_up f_139 s11_1 (.inl (kI, 25, .inl (upd gG (Int32.toNatClampNeg 24) z_126))))) H := by rw [← va_pls hD9 fs11_1.1 hk_152 _]; exact hP
                              have hD : va_D A (va_pl L (va_up f_139 s11_1 (.inl (kI, 25, .inl (upd gG (Int32.toNatClampNeg 24) z_126))))) := by rw [← va_pls hD9 fs11_1.1 hk_152 _]; exact hD
                              have hPI := hPI.put (e := .inl (kI, 25, .inl (upd gG (Int32.toNatClampNeg 24) z_126))) fs11_1 ⟨_, rfl, fw_152⟩
                              have es_f_153 : va_up f_139 s11_1 (.inl (kI, 25, .inl (upd gG (Int32.toNatClampNeg 24) z_126))) s11_1 = .inl (kI, 25, .inl (upd gG (Int32.toNatClampNeg 24) z_126)) := va_up_self _ _ _
                              have eq_154 := (va_up_ne f_139 (.inl (kI, 25, .inl (upd gG (Int32.toNatClampNeg 24) z_126))) (isr_ne hg0 fs11_1 (by decide))).trans es_f_139
                              have eq_155 := (va_up_ne f_139 (.inl (kI, 25, .inl (upd gG (Int32.toNatClampNeg 24) z_126))) (isr_ne fs1_1 fs11_1 (by decide))).trans eq_140
                              have eq_156 := (va_up_ne f_139 (.inl (kI, 25, .inl (upd gG (Int32.toNatClampNeg 24) z_126))) (isr_ne fs2_1 fs11_1 (by decide))).trans eq_141
                              have eq_157 := (va_up_ne f_139 (.inl (kI, 25, .inl (upd gG (Int32.toNatClampNeg 24) z_126))) (isr_ne fs3_1 fs11_1 (by decide))).trans eq_142
                              have eq_158 := (va_up_ne f_139 (.inl (kI, 25, .inl (upd gG (Int32.toNatClampNeg 24) z_126))) (isr_ne fs4_1 fs11_1 (by decide))).trans eq_143
                              have eq_159 := (va_up_ne f_139 (.inl (kI, 25, .inl (upd gG (Int32.toNatClampNeg 24) z_126))) (isr_ne fs5_1 fs11_1 (by decide))).trans eq_144
                              have eq_160 := (va_up_ne f_139 (.inl (kI, 25, .inl (upd gG (Int32.toNatClampNeg 24) z_126))) (isr_ne fs8_1 fs11_1 (by decide))).trans eq_145
                              have eq_161 := (va_up_ne f_139 (.inl (kI, 25, .inl (upd gG (Int32.toNatClampNeg 24) z_126))) (isr_ne fs9_1 fs11_1 (by decide))).trans eq_146
                              have eq_162 := (va_up_ne f_139 (.inl (kI, 25, .inl (upd gG (Int32.toNatClampNeg 24) z_126))) (isr_ne fs10_1 fs11_1 (by decide))).trans eq_147
                              have hfr := fr_up (S := (sK [10, 21, 22, 23, 24])) (e := .inl (kI, 25, .inl (upd gG (Int32.toNatClampNeg 24) z_126))) hfr fs11_1 (by decide)
                              generalize hg_f_153 : va_up f_139 s11_1 (.inl (kI, 25, .inl (upd gG (Int32.toNatClampNeg 24) z_126))) = f_153 at hP hD hPI es_f_153 eq_154 eq_155 eq_156 eq_157 eq_158 eq_159 eq_160 eq_161 eq_162 hfr
                              refine lv_aload_n hx hb dX3_find_165 rfl (lv_at hl 4 rfl) ?_
                              refine lv_dup hx hb dX3_find_166 rfl ?_
                              obtain ⟨k_163, hk_163⟩ := va_plg hg0.1 eq_154
                              refine va_get (D := (dC, dI)) (ci := 3) (v := .int fm_111) (C := RX3) (T := TX3) (N := 23) hx hb hts iX3_ hown hK hP k_163 hk_163 rfl 12 (by decide) (hts (.fieldLink RX3 167 "FieldLeavesModel" "foundMany" "I") (by decide +kernel)) (fun _ h9 => h9) rfl dX3_find_167 ?_
                              refine lv_aload_n hx hb dX3_find_170 rfl (lv_at hl 4 rfl) ?_
                              obtain ⟨k_164, hk_164⟩ := va_plg hg0.1 eq_154
                              refine va_get (D := (dC, dI)) (ci := 3) (v := .int fm_111) (C := RX3) (T := TX3) (N := 23) hx hb hts iX3_ hown hK hP k_164 hk_164 rfl 12 (by decide) (hts (.fieldLink RX3 167 "FieldLeavesModel" "foundMany" "I") (by decide +kernel)) (fun _ h9 => h9) rfl dX3_find_171 ?_
                              refine lv_bipush (v := 24) hx hb dX3_find_174 (by decide) ?_
                              refine lv_icmp_ge (tgt := 183) hx hb dX3_find_176 (by decide) (fun c_165 => ?_) (fun c_165 => ?_)
                              · have c_165 := Int32.le_iff_toInt_le.mp c_165
                                refine lv_iconst (v := 0) hx hb dX3_find_183 (by decide) ?_
                                refine lv_iadd hx hb dX3_find_184 ?_
                                refine lv_topi (fun z_166 ez_166 => ?_)
                                have kz_166 := add_toInt ez_166 (by omega) (by omega)
                                obtain ⟨k_167, hk_167⟩ := va_plg hg0.1 eq_154
                                have hD9 := hD
                                have rg_168 : 0 ≤ Int32.toInt z_166 ∧ Int32.toInt z_166 ≤ 24 := by constructor <;> omega
                                refine va_put (D := (dC, dI)) (ci := 3) (v := .int z_166) (ty := .int) (C := RX3) (T := TX3) (N := 23) hx hb hts iX3_ tyX3 tyX3_ok nmX3 hown hK hP hD hS k_167 hk_167 rfl 12 (by decide) (hts (.fieldLink RX3 167 "FieldLeavesModel" "foundMany" "I") (by decide +kernel)) (fun _ h9 => h9) rfl (by decide +kernel) rfl rfl (Nat.le_of_ble_eq_true rfl) dX3_find_185 (fun H locs hP hD hS => ?_)
                                have hP : va_P (dC, dI) vwCl (va_pl L (va_up f_153 g0 (.inr (3, [.ref s1_1, .ref s2_1, .ref s3_1, .ref s4_1, .ref s5_1, .ref s6_1, .ref s7_1, .int pa_111, .int lm_111, .ref s8_1, .ref s9_1, .ref s10_1, .int z_166, .ref s11_1, .int nm_111, .ref s12_1, .ref s13_1, .ref s14_1, .int 0, .ref s15_1, .ref s16_1, .ref s17_1, .ref s18_1])))) H := by rw [← va_pls hD9 hg0.1 hk_167 _]; exact hP
                                have hD : va_D A (va_pl L (va_up f_153 g0 (.inr (3, [.ref s1_1, .ref s2_1, .ref s3_1, .ref s4_1, .ref s5_1, .ref s6_1, .ref s7_1, .int pa_111, .int lm_111, .ref s8_1, .ref s9_1, .ref s10_1, .int z_166, .ref s11_1, .int nm_111, .ref s12_1, .ref s13_1, .ref s14_1, .int 0, .ref s15_1, .ref s16_1, .ref s17_1, .ref s18_1])))) := by rw [← va_pls hD9 hg0.1 hk_167 _]; exact hD
                                have hPI := hPI.put (e := .inr (3, [.ref s1_1, .ref s2_1, .ref s3_1, .ref s4_1, .ref s5_1, .ref s6_1, .ref s7_1, .int pa_111, .int lm_111, .ref s8_1, .ref s9_1, .ref s10_1, .int z_166, .ref s11_1, .int nm_111, .ref s12_1, .ref s13_1, .ref s14_1, .int 0, .ref s15_1, .ref s16_1, .ref s17_1, .ref s18_1])) hg0 ⟨s1_1, s2_1, s3_1, s4_1, s5_1, s6_1, s7_1, pa_111, lm_111, s8_1, s9_1, s10_1, z_166, s11_1, nm_111, s12_1, s13_1, s14_1, 0, s15_1, s16_1, s17_1, s18_1, rfl, fs1_1, fs2_1, fs3_1, fs4_1, fs5_1, fs6_1, fs7_1, flm_111, fs8_1, fs9_1, fs10_1, rg_168, fs11_1, fnm_111, fs12_1, fs13_1, fs14_1, (Or.inr rfl), fs15_1, fs16_1, fs17_1, fs18_1⟩
                                have es_f_169 : va_up f_153 g0 (.inr (3, [.ref s1_1, .ref s2_1, .ref s3_1, .ref s4_1, .ref s5_1, .ref s6_1, .ref s7_1, .int pa_111, .int lm_111, .ref s8_1, .ref s9_1, .ref s10_1, .int z_166, .ref s11_1, .int nm_111, .ref s12_1, .ref s13_1, .ref s14_1, .int 0, .ref s15_1, .ref s16_1, .ref s17_1, .ref s18_1])) g0 = .inr (3, [.ref s1_1, .ref s2_1, .ref s3_1, .ref s4_1, .ref s5_1, .ref s6_1, .ref s7_1, .int pa_111, .int lm_111, .ref s8_1, .ref s9_1, .ref s10_1, .int z_166, .ref s11_1, .int nm_111, .ref s12_1, .ref s13_1, .ref s14_1, .int 0, .ref s15_1, .ref s16_1, .ref s17_1, .ref s18_1]) := va_up_self _ _ _
                                have eq_170 := (va_up_ne f_153 (.inr (3, [.ref s1_1, .ref s2_1, .ref s3_1, .ref s4_1, .ref s5_1, .ref s6_1, .ref s7_1, .int pa_111, .int lm_111, .ref s8_1, .ref s9_1, .ref s10_1, .int z_166, .ref s11_1, .int nm_111, .ref s12_1, .ref s13_1, .ref s14_1, .int 0, .ref s15_1, .ref s16_1, .ref s17_1, .ref s18_1])) (isr_ne fs1_1 hg0 (by decide))).trans eq_155
                                have eq_171 := (va_up_ne f_153 (.inr (3, [.ref s1_1, .ref s2_1, .ref s3_1, .ref s4_1, .ref s5_1, .ref s6_1, .ref s7_1, .int pa_111, .int lm_111, .ref s8_1, .ref s9_1, .ref s10_1, .int z_166, .ref s11_1, .int nm_111, .ref s12_1, .ref s13_1, .ref s14_1, .int 0, .ref s15_1, .ref s16_1, .ref s17_1, .ref s18_1])) (isr_ne fs2_1 hg0 (by decide))).trans eq_156
                                have eq_172 := (va_up_ne f_153 (.inr (3, [.ref s1_1, .ref s2_1, .ref s3_1, .ref s4_1, .ref s5_1, .ref s6_1, .ref s7_1, .int pa_111, .int lm_111, .ref s8_1, .ref s9_1, .ref s10_1, .int z_166, .ref s11_1, .int nm_111, .ref s12_1, .ref s13_1, .ref s14_1, .int 0, .ref s15_1, .ref s16_1, .ref s17_1, .ref s18_1])) (isr_ne fs3_1 hg0 (by decide))).trans eq_157
                                have eq_173 := (va_up_ne f_153 (.inr (3, [.ref s1_1, .ref s2_1, .ref s3_1, .ref s4_1, .ref s5_1, .ref s6_1, .ref s7_1, .int pa_111, .int lm_111, .ref s8_1, .ref s9_1, .ref s10_1, .int z_166, .ref s11_1, .int nm_111, .ref s12_1, .ref s13_1, .ref s14_1, .int 0, .ref s15_1, .ref s16_1, .ref s17_1, .ref s18_1])) (isr_ne fs4_1 hg0 (by decide))).trans eq_158
                                have eq_174 := (va_up_ne f_153 (.inr (3, [.ref s1_1, .ref s2_1, .ref s3_1, .ref s4_1, .ref s5_1, .ref s6_1, .ref s7_1, .int pa_111, .int lm_111, .ref s8_1, .ref s9_1, .ref s10_1, .int z_166, .ref s11_1, .int nm_111, .ref s12_1, .ref s13_1, .ref s14_1, .int 0, .ref s15_1, .ref s16_1, .ref s17_1, .ref s18_1])) (isr_ne fs5_1 hg0 (by decide))).trans eq_159
                                have eq_175 := (va_up_ne f_153 (.inr (3, [.ref s1_1, .ref s2_1, .ref s3_1, .ref s4_1, .ref s5_1, .ref s6_1, .ref s7_1, .int pa_111, .int lm_111, .ref s8_1, .ref s9_1, .ref s10_1, .int z_166, .ref s11_1, .int nm_111, .ref s12_1, .ref s13_1, .ref s14_1, .int 0, .ref s15_1, .ref s16_1, .ref s17_1, .ref s18_1])) (isr_ne fs8_1 hg0 (by decide))).trans eq_160
                                have eq_176 := (va_up_ne f_153 (.inr (3, [.ref s1_1, .ref s2_1, .ref s3_1, .ref s4_1, .ref s5_1, .ref s6_1, .ref s7_1, .int pa_111, .int lm_111, .ref s8_1, .ref s9_1, .ref s10_1, .int z_166, .ref s11_1, .int nm_111, .ref s12_1, .ref s13_1, .ref s14_1, .int 0, .ref s15_1, .ref s16_1, .ref s17_1, .ref s18_1])) (isr_ne fs9_1 hg0 (by decide))).trans eq_161
                                have eq_177 := (va_up_ne f_153 (.inr (3, [.ref s1_1, .ref s2_1, .ref s3_1, .ref s4_1, .ref s5_1, .ref s6_1, .ref s7_1, .int pa_111, .int lm_111, .ref s8_1, .ref s9_1, .ref s10_1, .int z_166, .ref s11_1, .int nm_111, .ref s12_1, .ref s13_1, .ref s14_1, .int 0, .ref s15_1, .ref s16_1, .ref s17_1, .ref s18_1])) (isr_ne fs10_1 hg0 (by decide))).trans eq_162
                                have eq_178 := (va_up_ne f_153 (.inr (3, [.ref s1_1, .ref s2_1, .ref s3_1, .ref s4_1, .ref s5_1, .ref s6_1, .ref s7_1, .int pa_111, .int lm_111, .ref s8_1, .ref s9_1, .ref s10_1, .int z_166, .ref s11_1, .int nm_111, .ref s12_1, .ref s13_1, .ref s14_1, .int 0, .ref s15_1, .ref s16_1, .ref s17_1, .ref s18_1])) (isr_ne fs11_1 hg0 (by decide))).trans es_f_153
                                have hfr := fr_up (S := (sK [10, 21, 22, 23, 24])) (e := .inr (3, [.ref s1_1, .ref s2_1, .ref s3_1, .ref s4_1, .ref s5_1, .ref s6_1, .ref s7_1, .int pa_111, .int lm_111, .ref s8_1, .ref s9_1, .ref s10_1, .int z_166, .ref s11_1, .int nm_111, .ref s12_1, .ref s13_1, .ref s14_1, .int 0, .ref s15_1, .ref s16_1, .ref s17_1, .ref s18_1])) hfr hg0 (by decide)
                                generalize hg_f_169 : va_up f_153 g0 (.inr (3, [.ref s1_1, .ref s2_1, .ref s3_1, .ref s4_1, .ref s5_1, .ref s6_1, .ref s7_1, .int pa_111, .int lm_111, .ref s8_1, .ref s9_1, .ref s10_1, .int z_166, .ref s11_1, .int nm_111, .ref s12_1, .ref s13_1, .ref s14_1, .int 0, .ref s15_1, .ref s16_1, .ref s17_1, .ref s18_1])) = f_169 at hP hD hPI es_f_169 eq_170 eq_171 eq_172 eq_173 eq_174 eq_175 eq_176 eq_177 eq_178 hfr
                                obtain ⟨i_179, ei_179⟩ : ∃ y : Int32, y = i4 + 1 := ⟨_, rfl⟩
                                refine lv_iinc (v := i_179) (lv' := [(4, .int i_179), (5, .int z_126), (3, .int z_102), (2, .int i2), (0, .ref g0), (1, .int o0)]) hx hb dX3_find_188 hl (k := 1) rfl (by rw [ei_179]; rfl) (by decide) rfl (fun ls hl => ?_)
                                have ki_179 := inc_toInt ei_179 (by omega)
                                refine lv_goto (tgt := 50) hx hb dX3_find_191 (by decide) ?_
                                exact ih_50 i_179 f_169 _ _ _  (by omega) (by omega) ⟨hfr, ⟨(show KQ2 f f_169 g0 from ⟨(by rw [es_f_169]; exact hk7), (by rw [es_f_169]; exact hk8)⟩), (by rw [(show cI (f_169 g0) 14 = nm_111 from by rw [es_f_169]; rfl)]; exact hn14), Or.inr ⟨(show cI (f_169 g0) 18 = 0 from by rw [es_f_169]; rfl), (by rw [sq_step (by omega) ki_179, r_lk_val (by omega) (hs_iff.mpr (by rw [← ez_118]; exact hp_120)) er_125 (by omega) hq_t_127, ad_new ((nbr_mem hq_132 (by omega)).mp (by omega)), List.length_append]; show 24 < _ + 1; omega)⟩⟩⟩ hPI hP hD hS (lv_sub hl [0, 2, 3, 4, 5] rfl)
                              · have c_165 := mt Int32.le_iff_toInt_le.mpr c_165
                                refine lv_iconst (v := 1) hx hb dX3_find_179 (by decide) ?_
                                refine lv_goto (tgt := 184) hx hb dX3_find_180 (by decide) ?_
                                refine lv_iadd hx hb dX3_find_184 ?_
                                refine lv_topi (fun z_180 ez_180 => ?_)
                                have kz_180 := add_toInt ez_180 (by omega) (by omega)
                                obtain ⟨k_181, hk_181⟩ := va_plg hg0.1 eq_154
                                have hD9 := hD
                                have rg_182 : 0 ≤ Int32.toInt z_180 ∧ Int32.toInt z_180 ≤ 24 := by constructor <;> omega
                                refine va_put (D := (dC, dI)) (ci := 3) (v := .int z_180) (ty := .int) (C := RX3) (T := TX3) (N := 23) hx hb hts iX3_ tyX3 tyX3_ok nmX3 hown hK hP hD hS k_181 hk_181 rfl 12 (by decide) (hts (.fieldLink RX3 167 "FieldLeavesModel" "foundMany" "I") (by decide +kernel)) (fun _ h9 => h9) rfl (by decide +kernel) rfl rfl (Nat.le_of_ble_eq_true rfl) dX3_find_185 (fun H locs hP hD hS => ?_)
                                have hP : va_P (dC, dI) vwCl (va_pl L (va_up f_153 g0 (.inr (3, [.ref s1_1, .ref s2_1, .ref s3_1, .ref s4_1, .ref s5_1, .ref s6_1, .ref s7_1, .int pa_111, .int lm_111, .ref s8_1, .ref s9_1, .ref s10_1, .int z_180, .ref s11_1, .int nm_111, .ref s12_1, .ref s13_1, .ref s14_1, .int 0, .ref s15_1, .ref s16_1, .ref s17_1, .ref s18_1])))) H := by rw [← va_pls hD9 hg0.1 hk_181 _]; exact hP
                                have hD : va_D A (va_pl L (va_up f_153 g0 (.inr (3, [.ref s1_1, .ref s2_1, .ref s3_1, .ref s4_1, .ref s5_1, .ref s6_1, .ref s7_1, .int pa_111, .int lm_111, .ref s8_1, .ref s9_1, .ref s10_1, .int z_180, .ref s11_1, .int nm_111, .ref s12_1, .ref s13_1, .ref s14_1, .int 0, .ref s15_1, .ref s16_1, .ref s17_1, .ref s18_1])))) := by rw [← va_pls hD9 hg0.1 hk_181 _]; exact hD
                                have hPI := hPI.put (e := .inr (3, [.ref s1_1, .ref s2_1, .ref s3_1, .ref s4_1, .ref s5_1, .ref s6_1, .ref s7_1, .int pa_111, .int lm_111, .ref s8_1, .ref s9_1, .ref s10_1, .int z_180, .ref s11_1, .int nm_111, .ref s12_1, .ref s13_1, .ref s14_1, .int 0, .ref s15_1, .ref s16_1, .ref s17_1, .ref s18_1])) hg0 ⟨s1_1, s2_1, s3_1, s4_1, s5_1, s6_1, s7_1, pa_111, lm_111, s8_1, s9_1, s10_1, z_180, s11_1, nm_111, s12_1, s13_1, s14_1, 0, s15_1, s16_1, s17_1, s18_1, rfl, fs1_1, fs2_1, fs3_1, fs4_1, fs5_1, fs6_1, fs7_1, flm_111, fs8_1, fs9_1, fs10_1, rg_182, fs11_1, fnm_111, fs12_1, fs13_1, fs14_1, (Or.inr rfl), fs15_1, fs16_1, fs17_1, fs18_1⟩
                                have es_f_183 : va_up f_153 g0 (.inr (3, [.ref s1_1, .ref s2_1, .ref s3_1, .ref s4_1, .ref s5_1, .ref s6_1, .ref s7_1, .int pa_111, .int lm_111, .ref s8_1, .ref s9_1, .ref s10_1, .int z_180, .ref s11_1, .int nm_111, .ref s12_1, .ref s13_1, .ref s14_1, .int 0, .ref s15_1, .ref s16_1, .ref s17_1, .ref s18_1])) g0 = .inr (3, [.ref s1_1, .ref s2_1, .ref s3_1, .ref s4_1, .ref s5_1, .ref s6_1, .ref s7_1, .int pa_111, .int lm_111, .ref s8_1, .ref s9_1, .ref s10_1, .int z_180, .ref s11_1, .int nm_111, .ref s12_1, .ref s13_1, .ref s14_1, .int 0, .ref s15_1, .ref s16_1, .ref s17_1, .ref s18_1]) := va_up_self _ _ _
                                have eq_184 := (va_up_ne f_153 (.inr (3, [.ref s1_1, .ref s2_1, .ref s3_1, .ref s4_1, .ref s5_1, .ref s6_1, .ref s7_1, .int pa_111, .int lm_111, .ref s8_1, .ref s9_1, .ref s10_1, .int z_180, .ref s11_1, .int nm_111, .ref s12_1, .ref s13_1, .ref s14_1, .int 0, .ref s15_1, .ref s16_1, .ref s17_1, .ref s18_1])) (isr_ne fs1_1 hg0 (by decide))).trans eq_155
                                have eq_185 := (va_up_ne f_153 (.inr (3, [.ref s1_1, .ref s2_1, .ref s3_1, .ref s4_1, .ref s5_1, .ref s6_1, .ref s7_1, .int pa_111, .int lm_111, .ref s8_1, .ref s9_1, .ref s10_1, .int z_180, .ref s11_1, .int nm_111, .ref s12_1, .ref s13_1, .ref s14_1, .int 0, .ref s15_1, .ref s16_1, .ref s17_1, .ref s18_1])) (isr_ne fs2_1 hg0 (by decide))).trans eq_156
                                have eq_186 := (va_up_ne f_153 (.inr (3, [.ref s1_1, .ref s2_1, .ref s3_1, .ref s4_1, .ref s5_1, .ref s6_1, .ref s7_1, .int pa_111, .int lm_111, .ref s8_1, .ref s9_1, .ref s10_1, .int z_180, .ref s11_1, .int nm_111, .ref s12_1, .ref s13_1, .ref s14_1, .int 0, .ref s15_1, .ref s16_1, .ref s17_1, .ref s18_1])) (isr_ne fs3_1 hg0 (by decide))).trans eq_157
                                have eq_187 := (va_up_ne f_153 (.inr (3, [.ref s1_1, .ref s2_1, .ref s3_1, .ref s4_1, .ref s5_1, .ref s6_1, .ref s7_1, .int pa_111, .int lm_111, .ref s8_1, .ref s9_1, .ref s10_1, .int z_180, .ref s11_1, .int nm_111, .ref s12_1, .ref s13_1, .ref s14_1, .int 0, .ref s15_1, .ref s16_1, .ref s17_1, .ref s18_1])) (isr_ne fs4_1 hg0 (by decide))).trans eq_158
                                have eq_188 := (va_up_ne f_153 (.inr (3, [.ref s1_1, .ref s2_1, .ref s3_1, .ref s4_1, .ref s5_1, .ref s6_1, .ref s7_1, .int pa_111, .int lm_111, .ref s8_1, .ref s9_1, .ref s10_1, .int z_180, .ref s11_1, .int nm_111, .ref s12_1, .ref s13_1, .ref s14_1, .int 0, .ref s15_1, .ref s16_1, .ref s17_1, .ref s18_1])) (isr_ne fs5_1 hg0 (by decide))).trans eq_159
                                have eq_189 := (va_up_ne f_153 (.inr (3, [.ref s1_1, .ref s2_1, .ref s3_1, .ref s4_1, .ref s5_1, .ref s6_1, .ref s7_1, .int pa_111, .int lm_111, .ref s8_1, .ref s9_1, .ref s10_1, .int z_180, .ref s11_1, .int nm_111, .ref s12_1, .ref s13_1, .ref s14_1, .int 0, .ref s15_1, .ref s16_1, .ref s17_1, .ref s18_1])) (isr_ne fs8_1 hg0 (by decide))).trans eq_160
                                have eq_190 := (va_up_ne f_153 (.inr (3, [.ref s1_1, .ref s2_1, .ref s3_1, .ref s4_1, .ref s5_1, .ref s6_1, .ref s7_1, .int pa_111, .int lm_111, .ref s8_1, .ref s9_1, .ref s10_1, .int z_180, .ref s11_1, .int nm_111, .ref s12_1, .ref s13_1, .ref s14_1, .int 0, .ref s15_1, .ref s16_1, .ref s17_1, .ref s18_1])) (isr_ne fs9_1 hg0 (by decide))).trans eq_161
                                have eq_191 := (va_up_ne f_153 (.inr (3, [.ref s1_1, .ref s2_1, .ref s3_1, .ref s4_1, .ref s5_1, .ref s6_1, .ref s7_1, .int pa_111, .int lm_111, .ref s8_1, .ref s9_1, .ref s10_1, .int z_180, .ref s11_1, .int nm_111, .ref s12_1, .ref s13_1, .ref s14_1, .int 0, .ref s15_1, .ref s16_1, .ref s17_1, .ref s18_1])) (isr_ne fs10_1 hg0 (by decide))).trans eq_162
                                have eq_192 := (va_up_ne f_153 (.inr (3, [.ref s1_1, .ref s2_1, .ref s3_1, .ref s4_1, .ref s5_1, .ref s6_1, .ref s7_1, .int pa_111, .int lm_111, .ref s8_1, .ref s9_1, .ref s10_1, .int z_180, .ref s11_1, .int nm_111, .ref s12_1, .ref s13_1, .ref s14_1, .int 0, .ref s15_1, .ref s16_1, .ref s17_1, .ref s18_1])) (isr_ne fs11_1 hg0 (by decide))).trans es_f_153
                                have hfr := fr_up (S := (sK [10, 21, 22, 23, 24])) (e := .inr (3, [.ref s1_1, .ref s2_1, .ref s3_1, .ref s4_1, .ref s5_1, .ref s6_1, .ref s7_1, .int pa_111, .int lm_111, .ref s8_1, .ref s9_1, .ref s10_1, .int z_180, .ref s11_1, .int nm_111, .ref s12_1, .ref s13_1, .ref s14_1, .int 0, .ref s15_1, .ref s16_1, .ref s17_1, .ref s18_1])) hfr hg0 (by decide)
                                generalize hg_f_183 : va_up f_153 g0 (.inr (3, [.ref s1_1, .ref s2_1, .ref s3_1, .ref s4_1, .ref s5_1, .ref s6_1, .ref s7_1, .int pa_111, .int lm_111, .ref s8_1, .ref s9_1, .ref s10_1, .int z_180, .ref s11_1, .int nm_111, .ref s12_1, .ref s13_1, .ref s14_1, .int 0, .ref s15_1, .ref s16_1, .ref s17_1, .ref s18_1])) = f_183 at hP hD hPI es_f_183 eq_184 eq_185 eq_186 eq_187 eq_188 eq_189 eq_190 eq_191 eq_192 hfr
                                obtain ⟨i_193, ei_193⟩ : ∃ y : Int32, y = i4 + 1 := ⟨_, rfl⟩
                                refine lv_iinc (v := i_193) (lv' := [(4, .int i_193), (5, .int z_126), (3, .int z_102), (2, .int i2), (0, .ref g0), (1, .int o0)]) hx hb dX3_find_188 hl (k := 1) rfl (by rw [ei_193]; rfl) (by decide) rfl (fun ls hl => ?_)
                                have ki_193 := inc_toInt ei_193 (by omega)
                                refine lv_goto (tgt := 50) hx hb dX3_find_191 (by decide) ?_
                                exact ih_50 i_193 f_183 _ _ _  (by omega) (by omega) ⟨hfr, ⟨(show KQ2 f f_183 g0 from ⟨(by rw [es_f_183]; exact hk7), (by rw [es_f_183]; exact hk8)⟩), (by rw [(show cI (f_183 g0) 14 = nm_111 from by rw [es_f_183]; rfl)]; exact hn14), Or.inr ⟨(show cI (f_183 g0) 18 = 0 from by rw [es_f_183]; rfl), (by rw [sq_step (by omega) ki_193, r_lk_val (by omega) (hs_iff.mpr (by rw [← ez_118]; exact hp_120)) er_125 (by omega) hq_t_127, ad_new ((nbr_mem hq_132 (by omega)).mp (by omega)), List.length_append]; show 24 < _ + 1; omega)⟩⟩⟩ hPI hP hD hS (lv_sub hl [0, 2, 3, 4, 5] rfl)
                            · have c_151 := mt Int32.le_iff_toInt_le.mpr c_151
                              refine lv_aload_n hx hb dX3_find_153 rfl (lv_at hl 4 rfl) ?_
                              obtain ⟨k_194, hk_194⟩ := va_plg hg0.1 es_f_139
                              refine va_get (D := (dC, dI)) (ci := 3) (v := .int fm_111) (C := RX3) (T := TX3) (N := 23) hx hb hts iX3_ hown hK hP k_194 hk_194 rfl 12 (by decide) (hts (.fieldLink RX3 167 "FieldLeavesModel" "foundMany" "I") (by decide +kernel)) (fun _ h9 => h9) rfl dX3_find_154 ?_
                              refine lv_goto (tgt := 162) hx hb dX3_find_157 (by decide) ?_
                              refine lv_iload hx hb dX3_find_162 (lv_at hl 0 rfl) ?_
                              obtain ⟨k_195, hk_195⟩ := va_plg fs11_1.1 eq_148
                              have h_195 : vp_in fm_111 25 := (vp_in_iff.mpr (by constructor <;> omega))
                              have fw_195 := updS (P := fun v => 0 ≤ v.toInt ∧ v.toInt < 6400) (k := Int32.toNatClampNeg fm_111) (v := z_126) fg_112 (by omega)
                              have hD9 := hD
                              refine va_iast hx hb hK hP hD hS k_195 0 hk_195 rfl h_195 dX3_find_164 (fun H locs hP hD hS => ?_)
                              have hP : va_P (dC, dI) vwCl (va_pl L (va_up f_139 s11_1 (.inl (kI, 25, .inl (upd gG (Int32.toNatClampNeg fm_111) z_126))))) H := by rw [← va_pls hD9 fs11_1.1 hk_195 _]; exact hP
                              have hD : va_D A (va_pl L (va_up f_139 s11_1 (.inl (kI, 25, .inl (upd gG (Int32.toNatClampNeg fm_111) z_126))))) := by rw [← va_pls hD9 fs11_1.1 hk_195 _]; exact hD
                              have hPI := hPI.put (e := .inl (kI, 25, .inl (upd gG (Int32.toNatClampNeg fm_111) z_126))) fs11_1 ⟨_, rfl, fw_195⟩
                              have es_f_196 : va_up f_139 s11_1 (.inl (kI, 25, .inl (upd gG (Int32.toNatClampNeg fm_111) z_126))) s11_1 = .inl (kI, 25, .inl (upd gG (Int32.toNatClampNeg fm_111) z_126)) := va_up_self _ _ _
                              have eq_197 := (va_up_ne f_139 (.inl (kI, 25, .inl (upd gG (Int32.toNatClampNeg fm_111) z_126))) (isr_ne hg0 fs11_1 (by decide))).trans es_f_139
                              have eq_198 := (va_up_ne f_139 (.inl (kI, 25, .inl (upd gG (Int32.toNatClampNeg fm_111) z_126))) (isr_ne fs1_1 fs11_1 (by decide))).trans eq_140
                              have eq_199 := (va_up_ne f_139 (.inl (kI, 25, .inl (upd gG (Int32.toNatClampNeg fm_111) z_126))) (isr_ne fs2_1 fs11_1 (by decide))).trans eq_141
                              have eq_200 := (va_up_ne f_139 (.inl (kI, 25, .inl (upd gG (Int32.toNatClampNeg fm_111) z_126))) (isr_ne fs3_1 fs11_1 (by decide))).trans eq_142
                              have eq_201 := (va_up_ne f_139 (.inl (kI, 25, .inl (upd gG (Int32.toNatClampNeg fm_111) z_126))) (isr_ne fs4_1 fs11_1 (by decide))).trans eq_143
                              have eq_202 := (va_up_ne f_139 (.inl (kI, 25, .inl (upd gG (Int32.toNatClampNeg fm_111) z_126))) (isr_ne fs5_1 fs11_1 (by decide))).trans eq_144
                              have eq_203 := (va_up_ne f_139 (.inl (kI, 25, .inl (upd gG (Int32.toNatClampNeg fm_111) z_126))) (isr_ne fs8_1 fs11_1 (by decide))).trans eq_145
                              have eq_204 := (va_up_ne f_139 (.inl (kI, 25, .inl (upd gG (Int32.toNatClampNeg fm_111) z_126))) (isr_ne fs9_1 fs11_1 (by decide))).trans eq_146
                              have eq_205 := (va_up_ne f_139 (.inl (kI, 25, .inl (upd gG (Int32.toNatClampNeg fm_111) z_126))) (isr_ne fs10_1 fs11_1 (by decide))).trans eq_147
                              have hfr := fr_up (S := (sK [10, 21, 22, 23, 24])) (e := .inl (kI, 25, .inl (upd gG (Int32.toNatClampNeg fm_111) z_126))) hfr fs11_1 (by decide)
                              generalize hg_f_196 : va_up f_139 s11_1 (.inl (kI, 25, .inl (upd gG (Int32.toNatClampNeg fm_111) z_126))) = f_196 at hP hD hPI es_f_196 eq_197 eq_198 eq_199 eq_200 eq_201 eq_202 eq_203 eq_204 eq_205 hfr
                              refine lv_aload_n hx hb dX3_find_165 rfl (lv_at hl 4 rfl) ?_
                              refine lv_dup hx hb dX3_find_166 rfl ?_
                              obtain ⟨k_206, hk_206⟩ := va_plg hg0.1 eq_197
                              refine va_get (D := (dC, dI)) (ci := 3) (v := .int fm_111) (C := RX3) (T := TX3) (N := 23) hx hb hts iX3_ hown hK hP k_206 hk_206 rfl 12 (by decide) (hts (.fieldLink RX3 167 "FieldLeavesModel" "foundMany" "I") (by decide +kernel)) (fun _ h9 => h9) rfl dX3_find_167 ?_
                              refine lv_aload_n hx hb dX3_find_170 rfl (lv_at hl 4 rfl) ?_
                              obtain ⟨k_207, hk_207⟩ := va_plg hg0.1 eq_197
                              refine va_get (D := (dC, dI)) (ci := 3) (v := .int fm_111) (C := RX3) (T := TX3) (N := 23) hx hb hts iX3_ hown hK hP k_207 hk_207 rfl 12 (by decide) (hts (.fieldLink RX3 167 "FieldLeavesModel" "foundMany" "I") (by decide +kernel)) (fun _ h9 => h9) rfl dX3_find_171 ?_
                              refine lv_bipush (v := 24) hx hb dX3_find_174 (by decide) ?_
                              refine lv_icmp_ge (tgt := 183) hx hb dX3_find_176 (by decide) (fun c_208 => ?_) (fun c_208 => ?_)
                              · have c_208 := Int32.le_iff_toInt_le.mp c_208
                                refine lv_iconst (v := 0) hx hb dX3_find_183 (by decide) ?_
                                refine lv_iadd hx hb dX3_find_184 ?_
                                refine lv_topi (fun z_209 ez_209 => ?_)
                                have kz_209 := add_toInt ez_209 (by omega) (by omega)
                                obtain ⟨k_210, hk_210⟩ := va_plg hg0.1 eq_197
                                have hD9 := hD
                                have rg_211 : 0 ≤ Int32.toInt z_209 ∧ Int32.toInt z_209 ≤ 24 := by constructor <;> omega
                                refine va_put (D := (dC, dI)) (ci := 3) (v := .int z_209) (ty := .int) (C := RX3) (T := TX3) (N := 23) hx hb hts iX3_ tyX3 tyX3_ok nmX3 hown hK hP hD hS k_210 hk_210 rfl 12 (by decide) (hts (.fieldLink RX3 167 "FieldLeavesModel" "foundMany" "I") (by decide +kernel)) (fun _ h9 => h9) rfl (by decide +kernel) rfl rfl (Nat.le_of_ble_eq_true rfl) dX3_find_185 (fun H locs hP hD hS => ?_)
                                have hP : va_P (dC, dI) vwCl (va_pl L (va_up f_196 g0 (.inr (3, [.ref s1_1, .ref s2_1, .ref s3_1, .ref s4_1, .ref s5_1, .ref s6_1, .ref s7_1, .int pa_111, .int lm_111, .ref s8_1, .ref s9_1, .ref s10_1, .int z_209, .ref s11_1, .int nm_111, .ref s12_1, .ref s13_1, .ref s14_1, .int 0, .ref s15_1, .ref s16_1, .ref s17_1, .ref s18_1])))) H := by rw [← va_pls hD9 hg0.1 hk_210 _]; exact hP
                                have hD : va_D A (va_pl L (va_up f_196 g0 (.inr (3, [.ref s1_1, .ref s2_1, .ref s3_1, .ref s4_1, .ref s5_1, .ref s6_1, .ref s7_1, .int pa_111, .int lm_111, .ref s8_1, .ref s9_1, .ref s10_1, .int z_209, .ref s11_1, .int nm_111, .ref s12_1, .ref s13_1, .ref s14_1, .int 0, .ref s15_1, .ref s16_1, .ref s17_1, .ref s18_1])))) := by rw [← va_pls hD9 hg0.1 hk_210 _]; exact hD
                                have hPI := hPI.put (e := .inr (3, [.ref s1_1, .ref s2_1, .ref s3_1, .ref s4_1, .ref s5_1, .ref s6_1, .ref s7_1, .int pa_111, .int lm_111, .ref s8_1, .ref s9_1, .ref s10_1, .int z_209, .ref s11_1, .int nm_111, .ref s12_1, .ref s13_1, .ref s14_1, .int 0, .ref s15_1, .ref s16_1, .ref s17_1, .ref s18_1])) hg0 ⟨s1_1, s2_1, s3_1, s4_1, s5_1, s6_1, s7_1, pa_111, lm_111, s8_1, s9_1, s10_1, z_209, s11_1, nm_111, s12_1, s13_1, s14_1, 0, s15_1, s16_1, s17_1, s18_1, rfl, fs1_1, fs2_1, fs3_1, fs4_1, fs5_1, fs6_1, fs7_1, flm_111, fs8_1, fs9_1, fs10_1, rg_211, fs11_1, fnm_111, fs12_1, fs13_1, fs14_1, (Or.inr rfl), fs15_1, fs16_1, fs17_1, fs18_1⟩
                                have es_f_212 : va_up f_196 g0 (.inr (3, [.ref s1_1, .ref s2_1, .ref s3_1, .ref s4_1, .ref s5_1, .ref s6_1, .ref s7_1, .int pa_111, .int lm_111, .ref s8_1, .ref s9_1, .ref s10_1, .int z_209, .ref s11_1, .int nm_111, .ref s12_1, .ref s13_1, .ref s14_1, .int 0, .ref s15_1, .ref s16_1, .ref s17_1, .ref s18_1])) g0 = .inr (3, [.ref s1_1, .ref s2_1, .ref s3_1, .ref s4_1, .ref s5_1, .ref s6_1, .ref s7_1, .int pa_111, .int lm_111, .ref s8_1, .ref s9_1, .ref s10_1, .int z_209, .ref s11_1, .int nm_111, .ref s12_1, .ref s13_1, .ref s14_1, .int 0, .ref s15_1, .ref s16_1, .ref s17_1, .ref s18_1]) := va_up_self _ _ _
                                have eq_213 := (va_up_ne f_196 (.inr (3, [.ref s1_1, .ref s2_1, .ref s3_1, .ref s4_1, .ref s5_1, .ref s6_1, .ref s7_1, .int pa_111, .int lm_111, .ref s8_1, .ref s9_1, .ref s10_1, .int z_209, .ref s11_1, .int nm_111, .ref s12_1, .ref s13_1, .ref s14_1, .int 0, .ref s15_1, .ref s16_1, .ref s17_1, .ref s18_1])) (isr_ne fs1_1 hg0 (by decide))).trans eq_198
                                have eq_214 := (va_up_ne f_196 (.inr (3, [.ref s1_1, .ref s2_1, .ref s3_1, .ref s4_1, .ref s5_1, .ref s6_1, .ref s7_1, .int pa_111, .int lm_111, .ref s8_1, .ref s9_1, .ref s10_1, .int z_209, .ref s11_1, .int nm_111, .ref s12_1, .ref s13_1, .ref s14_1, .int 0, .ref s15_1, .ref s16_1, .ref s17_1, .ref s18_1])) (isr_ne fs2_1 hg0 (by decide))).trans eq_199
                                have eq_215 := (va_up_ne f_196 (.inr (3, [.ref s1_1, .ref s2_1, .ref s3_1, .ref s4_1, .ref s5_1, .ref s6_1, .ref s7_1, .int pa_111, .int lm_111, .ref s8_1, .ref s9_1, .ref s10_1, .int z_209, .ref s11_1, .int nm_111, .ref s12_1, .ref s13_1, .ref s14_1, .int 0, .ref s15_1, .ref s16_1, .ref s17_1, .ref s18_1])) (isr_ne fs3_1 hg0 (by decide))).trans eq_200
                                have eq_216 := (va_up_ne f_196 (.inr (3, [.ref s1_1, .ref s2_1, .ref s3_1, .ref s4_1, .ref s5_1, .ref s6_1, .ref s7_1, .int pa_111, .int lm_111, .ref s8_1, .ref s9_1, .ref s10_1, .int z_209, .ref s11_1, .int nm_111, .ref s12_1, .ref s13_1, .ref s14_1, .int 0, .ref s15_1, .ref s16_1, .ref s17_1, .ref s18_1])) (isr_ne fs4_1 hg0 (by decide))).trans eq_201
                                have eq_217 := (va_up_ne f_196 (.inr (3, [.ref s1_1, .ref s2_1, .ref s3_1, .ref s4_1, .ref s5_1, .ref s6_1, .ref s7_1, .int pa_111, .int lm_111, .ref s8_1, .ref s9_1, .ref s10_1, .int z_209, .ref s11_1, .int nm_111, .ref s12_1, .ref s13_1, .ref s14_1, .int 0, .ref s15_1, .ref s16_1, .ref s17_1, .ref s18_1])) (isr_ne fs5_1 hg0 (by decide))).trans eq_202
                                have eq_218 := (va_up_ne f_196 (.inr (3, [.ref s1_1, .ref s2_1, .ref s3_1, .ref s4_1, .ref s5_1, .ref s6_1, .ref s7_1, .int pa_111, .int lm_111, .ref s8_1, .ref s9_1, .ref s10_1, .int z_209, .ref s11_1, .int nm_111, .ref s12_1, .ref s13_1, .ref s14_1, .int 0, .ref s15_1, .ref s16_1, .ref s17_1, .ref s18_1])) (isr_ne fs8_1 hg0 (by decide))).trans eq_203
                                have eq_219 := (va_up_ne f_196 (.inr (3, [.ref s1_1, .ref s2_1, .ref s3_1, .ref s4_1, .ref s5_1, .ref s6_1, .ref s7_1, .int pa_111, .int lm_111, .ref s8_1, .ref s9_1, .ref s10_1, .int z_209, .ref s11_1, .int nm_111, .ref s12_1, .ref s13_1, .ref s14_1, .int 0, .ref s15_1, .ref s16_1, .ref s17_1, .ref s18_1])) (isr_ne fs9_1 hg0 (by decide))).trans eq_204
                                have eq_220 := (va_up_ne f_196 (.inr (3, [.ref s1_1, .ref s2_1, .ref s3_1, .ref s4_1, .ref s5_1, .ref s6_1, .ref s7_1, .int pa_111, .int lm_111, .ref s8_1, .ref s9_1, .ref s10_1, .int z_209, .ref s11_1, .int nm_111, .ref s12_1, .ref s13_1, .ref s14_1, .int 0, .ref s15_1, .ref s16_1, .ref s17_1, .ref s18_1])) (isr_ne fs10_1 hg0 (by decide))).trans eq_205
                                have eq_221 := (va_up_ne f_196 (.inr (3, [.ref s1_1, .ref s2_1, .ref s3_1, .ref s4_1, .ref s5_1, .ref s6_1, .ref s7_1, .int pa_111, .int lm_111, .ref s8_1, .ref s9_1, .ref s10_1, .int z_209, .ref s11_1, .int nm_111, .ref s12_1, .ref s13_1, .ref s14_1, .int 0, .ref s15_1, .ref s16_1, .ref s17_1, .ref s18_1])) (isr_ne fs11_1 hg0 (by decide))).trans es_f_196
                                have hfr := fr_up (S := (sK [10, 21, 22, 23, 24])) (e := .inr (3, [.ref s1_1, .ref s2_1, .ref s3_1, .ref s4_1, .ref s5_1, .ref s6_1, .ref s7_1, .int pa_111, .int lm_111, .ref s8_1, .ref s9_1, .ref s10_1, .int z_209, .ref s11_1, .int nm_111, .ref s12_1, .ref s13_1, .ref s14_1, .int 0, .ref s15_1, .ref s16_1, .ref s17_1, .ref s18_1])) hfr hg0 (by decide)
                                generalize hg_f_212 : va_up f_196 g0 (.inr (3, [.ref s1_1, .ref s2_1, .ref s3_1, .ref s4_1, .ref s5_1, .ref s6_1, .ref s7_1, .int pa_111, .int lm_111, .ref s8_1, .ref s9_1, .ref s10_1, .int z_209, .ref s11_1, .int nm_111, .ref s12_1, .ref s13_1, .ref s14_1, .int 0, .ref s15_1, .ref s16_1, .ref s17_1, .ref s18_1])) = f_212 at hP hD hPI es_f_212 eq_213 eq_214 eq_215 eq_216 eq_217 eq_218 eq_219 eq_220 eq_221 hfr
                                obtain ⟨i_222, ei_222⟩ : ∃ y : Int32, y = i4 + 1 := ⟨_, rfl⟩
                                refine lv_iinc (v := i_222) (lv' := [(4, .int i_222), (5, .int z_126), (3, .int z_102), (2, .int i2), (0, .ref g0), (1, .int o0)]) hx hb dX3_find_188 hl (k := 1) rfl (by rw [ei_222]; rfl) (by decide) rfl (fun ls hl => ?_)
                                have ki_222 := inc_toInt ei_222 (by omega)
                                refine lv_goto (tgt := 50) hx hb dX3_find_191 (by decide) ?_
                                exact ih_50 i_222 f_212 _ _ _  (by omega) (by omega) ⟨hfr, ⟨(show KQ2 f f_212 g0 from ⟨(by rw [es_f_212]; exact hk7), (by rw [es_f_212]; exact hk8)⟩), (by rw [(show cI (f_212 g0) 14 = nm_111 from by rw [es_f_212]; rfl)]; exact hn14), Or.inr ⟨(show cI (f_212 g0) 18 = 0 from by rw [es_f_212]; rfl), (by rw [sq_step (by omega) ki_222, r_lk_val (by omega) (hs_iff.mpr (by rw [← ez_118]; exact hp_120)) er_125 (by omega) hq_t_127, ad_new ((nbr_mem hq_132 (by omega)).mp (by omega)), List.length_append]; show 24 < _ + 1; omega)⟩⟩⟩ hPI hP hD hS (lv_sub hl [0, 2, 3, 4, 5] rfl)
                              · have c_208 := mt Int32.le_iff_toInt_le.mpr c_208
                                refine lv_iconst (v := 1) hx hb dX3_find_179 (by decide) ?_
                                refine lv_goto (tgt := 184) hx hb dX3_find_180 (by decide) ?_
                                refine lv_iadd hx hb dX3_find_184 ?_
                                refine lv_topi (fun z_223 ez_223 => ?_)
                                have kz_223 := add_toInt ez_223 (by omega) (by omega)
                                obtain ⟨k_224, hk_224⟩ := va_plg hg0.1 eq_197
                                have hD9 := hD
                                have rg_225 : 0 ≤ Int32.toInt z_223 ∧ Int32.toInt z_223 ≤ 24 := by constructor <;> omega
                                refine va_put (D := (dC, dI)) (ci := 3) (v := .int z_223) (ty := .int) (C := RX3) (T := TX3) (N := 23) hx hb hts iX3_ tyX3 tyX3_ok nmX3 hown hK hP hD hS k_224 hk_224 rfl 12 (by decide) (hts (.fieldLink RX3 167 "FieldLeavesModel" "foundMany" "I") (by decide +kernel)) (fun _ h9 => h9) rfl (by decide +kernel) rfl rfl (Nat.le_of_ble_eq_true rfl) dX3_find_185 (fun H locs hP hD hS => ?_)
                                have hP : va_P (dC, dI) vwCl (va_pl L (va_up f_196 g0 (.inr (3, [.ref s1_1, .ref s2_1, .ref s3_1, .ref s4_1, .ref s5_1, .ref s6_1, .ref s7_1, .int pa_111, .int lm_111, .ref s8_1, .ref s9_1, .ref s10_1, .int z_223, .ref s11_1, .int nm_111, .ref s12_1, .ref s13_1, .ref s14_1, .int 0, .ref s15_1, .ref s16_1, .ref s17_1, .ref s18_1])))) H := by rw [← va_pls hD9 hg0.1 hk_224 _]; exact hP
                                have hD : va_D A (va_pl L (va_up f_196 g0 (.inr (3, [.ref s1_1, .ref s2_1, .ref s3_1, .ref s4_1, .ref s5_1, .ref s6_1, .ref s7_1, .int pa_111, .int lm_111, .ref s8_1, .ref s9_1, .ref s10_1, .int z_223, .ref s11_1, .int nm_111, .ref s12_1, .ref s13_1, .ref s14_1, .int 0, .ref s15_1, .ref s16_1, .ref s17_1, .ref s18_1])))) := by rw [← va_pls hD9 hg0.1 hk_224 _]; exact hD
                                have hPI := hPI.put (e := .inr (3, [.ref s1_1, .ref s2_1, .ref s3_1, .ref s4_1, .ref s5_1, .ref s6_1, .ref s7_1, .int pa_111, .int lm_111, .ref s8_1, .ref s9_1, .ref s10_1, .int z_223, .ref s11_1, .int nm_111, .ref s12_1, .ref s13_1, .ref s14_1, .int 0, .ref s15_1, .ref s16_1, .ref s17_1, .ref s18_1])) hg0 ⟨s1_1, s2_1, s3_1, s4_1, s5_1, s6_1, s7_1, pa_111, lm_111, s8_1, s9_1, s10_1, z_223, s11_1, nm_111, s12_1, s13_1, s14_1, 0, s15_1, s16_1, s17_1, s18_1, rfl, fs1_1, fs2_1, fs3_1, fs4_1, fs5_1, fs6_1, fs7_1, flm_111, fs8_1, fs9_1, fs10_1, rg_225, fs11_1, fnm_111, fs12_1, fs13_1, fs14_1, (Or.inr rfl), fs15_1, fs16_1, fs17_1, fs18_1⟩
                                have es_f_226 : va_up f_196 g0 (.inr (3, [.ref s1_1, .ref s2_1, .ref s3_1, .ref s4_1, .ref s5_1, .ref s6_1, .ref s7_1, .int pa_111, .int lm_111, .ref s8_1, .ref s9_1, .ref s10_1, .int z_223, .ref s11_1, .int nm_111, .ref s12_1, .ref s13_1, .ref s14_1, .int 0, .ref s15_1, .ref s16_1, .ref s17_1, .ref s18_1])) g0 = .inr (3, [.ref s1_1, .ref s2_1, .ref s3_1, .ref s4_1, .ref s5_1, .ref s6_1, .ref s7_1, .int pa_111, .int lm_111, .ref s8_1, .ref s9_1, .ref s10_1, .int z_223, .ref s11_1, .int nm_111, .ref s12_1, .ref s13_1, .ref s14_1, .int 0, .ref s15_1, .ref s16_1, .ref s17_1, .ref s18_1]) := va_up_self _ _ _
                                have eq_227 := (va_up_ne f_196 (.inr (3, [.ref s1_1, .ref s2_1, .ref s3_1, .ref s4_1, .ref s5_1, .ref s6_1, .ref s7_1, .int pa_111, .int lm_111, .ref s8_1, .ref s9_1, .ref s10_1, .int z_223, .ref s11_1, .int nm_111, .ref s12_1, .ref s13_1, .ref s14_1, .int 0, .ref s15_1, .ref s16_1, .ref s17_1, .ref s18_1])) (isr_ne fs1_1 hg0 (by decide))).trans eq_198
                                have eq_228 := (va_up_ne f_196 (.inr (3, [.ref s1_1, .ref s2_1, .ref s3_1, .ref s4_1, .ref s5_1, .ref s6_1, .ref s7_1, .int pa_111, .int lm_111, .ref s8_1, .ref s9_1, .ref s10_1, .int z_223, .ref s11_1, .int nm_111, .ref s12_1, .ref s13_1, .ref s14_1, .int 0, .ref s15_1, .ref s16_1, .ref s17_1, .ref s18_1])) (isr_ne fs2_1 hg0 (by decide))).trans eq_199
                                have eq_229 := (va_up_ne f_196 (.inr (3, [.ref s1_1, .ref s2_1, .ref s3_1, .ref s4_1, .ref s5_1, .ref s6_1, .ref s7_1, .int pa_111, .int lm_111, .ref s8_1, .ref s9_1, .ref s10_1, .int z_223, .ref s11_1, .int nm_111, .ref s12_1, .ref s13_1, .ref s14_1, .int 0, .ref s15_1, .ref s16_1, .ref s17_1, .ref s18_1])) (isr_ne fs3_1 hg0 (by decide))).trans eq_200
                                have eq_230 := (va_up_ne f_196 (.inr (3, [.ref s1_1, .ref s2_1, .ref s3_1, .ref s4_1, .ref s5_1, .ref s6_1, .ref s7_1, .int pa_111, .int lm_111, .ref s8_1, .ref s9_1, .ref s10_1, .int z_223, .ref s11_1, .int nm_111, .ref s12_1, .ref s13_1, .ref s14_1, .int 0, .ref s15_1, .ref s16_1, .ref s17_1, .ref s18_1])) (isr_ne fs4_1 hg0 (by decide))).trans eq_201
                                have eq_231 := (va_up_ne f_196 (.inr (3, [.ref s1_1, .ref s2_1, .ref s3_1, .ref s4_1, .ref s5_1, .ref s6_1, .ref s7_1, .int pa_111, .int lm_111, .ref s8_1, .ref s9_1, .ref s10_1, .int z_223, .ref s11_1, .int nm_111, .ref s12_1, .ref s13_1, .ref s14_1, .int 0, .ref s15_1, .ref s16_1, .ref s17_1, .ref s18_1])) (isr_ne fs5_1 hg0 (by decide))).trans eq_202
                                have eq_232 := (va_up_ne f_196 (.inr (3, [.ref s1_1, .ref s2_1, .ref s3_1, .ref s4_1, .ref s5_1, .ref s6_1, .ref s7_1, .int pa_111, .int lm_111, .ref s8_1, .ref s9_1, .ref s10_1, .int z_223, .ref s11_1, .int nm_111, .ref s12_1, .ref s13_1, .ref s14_1, .int 0, .ref s15_1, .ref s16_1, .ref s17_1, .ref s18_1])) (isr_ne fs8_1 hg0 (by decide))).trans eq_203
                                have eq_233 := (va_up_ne f_196 (.inr (3, [.ref s1_1, .ref s2_1, .ref s3_1, .ref s4_1, .ref s5_1, .ref s6_1, .ref s7_1, .int pa_111, .int lm_111, .ref s8_1, .ref s9_1, .ref s10_1, .int z_223, .ref s11_1, .int nm_111, .ref s12_1, .ref s13_1, .ref s14_1, .int 0, .ref s15_1, .ref s16_1, .ref s17_1, .ref s18_1])) (isr_ne fs9_1 hg0 (by decide))).trans eq_204
                                have eq_234 := (va_up_ne f_196 (.inr (3, [.ref s1_1, .ref s2_1, .ref s3_1, .ref s4_1, .ref s5_1, .ref s6_1, .ref s7_1, .int pa_111, .int lm_111, .ref s8_1, .ref s9_1, .ref s10_1, .int z_223, .ref s11_1, .int nm_111, .ref s12_1, .ref s13_1, .ref s14_1, .int 0, .ref s15_1, .ref s16_1, .ref s17_1, .ref s18_1])) (isr_ne fs10_1 hg0 (by decide))).trans eq_205
                                have eq_235 := (va_up_ne f_196 (.inr (3, [.ref s1_1, .ref s2_1, .ref s3_1, .ref s4_1, .ref s5_1, .ref s6_1, .ref s7_1, .int pa_111, .int lm_111, .ref s8_1, .ref s9_1, .ref s10_1, .int z_223, .ref s11_1, .int nm_111, .ref s12_1, .ref s13_1, .ref s14_1, .int 0, .ref s15_1, .ref s16_1, .ref s17_1, .ref s18_1])) (isr_ne fs11_1 hg0 (by decide))).trans es_f_196
                                have hfr := fr_up (S := (sK [10, 21, 22, 23, 24])) (e := .inr (3, [.ref s1_1, .ref s2_1, .ref s3_1, .ref s4_1, .ref s5_1, .ref s6_1, .ref s7_1, .int pa_111, .int lm_111, .ref s8_1, .ref s9_1, .ref s10_1, .int z_223, .ref s11_1, .int nm_111, .ref s12_1, .ref s13_1, .ref s14_1, .int 0, .ref s15_1, .ref s16_1, .ref s17_1, .ref s18_1])) hfr hg0 (by decide)
                                generalize hg_f_226 : va_up f_196 g0 (.inr (3, [.ref s1_1, .ref s2_1, .ref s3_1, .ref s4_1, .ref s5_1, .ref s6_1, .ref s7_1, .int pa_111, .int lm_111, .ref s8_1, .ref s9_1, .ref s10_1, .int z_223, .ref s11_1, .int nm_111, .ref s12_1, .ref s13_1, .ref s14_1, .int 0, .ref s15_1, .ref s16_1, .ref s17_1, .ref s18_1])) = f_226 at hP hD hPI es_f_226 eq_227 eq_228 eq_229 eq_230 eq_231 eq_232 eq_233 eq_234 eq_235 hfr
                                obtain ⟨i_236, ei_236⟩ : ∃ y : Int32, y = i4 + 1 := ⟨_, rfl⟩
                                refine lv_iinc (v := i_236) (lv' := [(4, .int i_236), (5, .int z_126), (3, .int z_102), (2, .int i2), (0, .ref g0), (1, .int o0)]) hx hb dX3_find_188 hl (k := 1) rfl (by rw [ei_236]; rfl) (by decide) rfl (fun ls hl => ?_)
                                have ki_236 := inc_toInt ei_236 (by omega)
                                refine lv_goto (tgt := 50) hx hb dX3_find_191 (by decide) ?_
                                exact ih_50 i_236 f_226 _ _ _  (by omega) (by omega) ⟨hfr, ⟨(show KQ2 f f_226 g0 from ⟨(by rw [es_f_226]; exact hk7), (by rw [es_f_226]; exact hk8)⟩), (by rw [(show cI (f_226 g0) 14 = nm_111 from by rw [es_f_226]; rfl)]; exact hn14), Or.inr ⟨(show cI (f_226 g0) 18 = 0 from by rw [es_f_226]; rfl), (by rw [sq_step (by omega) ki_236, r_lk_val (by omega) (hs_iff.mpr (by rw [← ez_118]; exact hp_120)) er_125 (by omega) hq_t_127, ad_new ((nbr_mem hq_132 (by omega)).mp (by omega)), List.length_append]; show 24 < _ + 1; omega)⟩⟩⟩ hPI hP hD hS (lv_sub hl [0, 2, 3, 4, 5] rfl)
                          · have c_137 := mt Int32.le_iff_toInt_le.mpr c_137
                            refine lv_iconst (v := 1) hx hb dX3_find_132 (by decide) ?_
                            refine lv_goto (tgt := 137) hx hb dX3_find_133 (by decide) ?_
                            obtain ⟨k_237, hk_237⟩ := va_plg hg0.1 e_111
                            have hD9 := hD
                            refine va_put (D := (dC, dI)) (ci := 3) (v := .int 1) (ty := .boolean) (C := RX3) (T := TX3) (N := 23) hx hb hts iX3_ tyX3 tyX3_ok nmX3 hown hK hP hD hS k_237 hk_237 rfl 18 (by decide) (hts (.fieldLink RX3 163 "FieldLeavesModel" "isRoom" "Z") (by decide +kernel)) (fun _ h9 => h9) rfl (by decide +kernel) rfl rfl (Nat.le_of_ble_eq_true rfl) dX3_find_137 (fun H locs hP hD hS => ?_)
                            have hP : va_P (dC, dI) vwCl (va_pl L (va_up fl50 g0 (.inr (3, [.ref s1_1, .ref s2_1, .ref s3_1, .ref s4_1, .ref s5_1, .ref s6_1, .ref s7_1, .int pa_111, .int lm_111, .ref s8_1, .ref s9_1, .ref s10_1, .int fm_111, .ref s11_1, .int nm_111, .ref s12_1, .ref s13_1, .ref s14_1, .int 1, .ref s15_1, .ref s16_1, .ref s17_1, .ref s18_1])))) H := by rw [← va_pls hD9 hg0.1 hk_237 _]; exact hP
                            have hD : va_D A (va_pl L (va_up fl50 g0 (.inr (3, [.ref s1_1, .ref s2_1, .ref s3_1, .ref s4_1, .ref s5_1, .ref s6_1, .ref s7_1, .int pa_111, .int lm_111, .ref s8_1, .ref s9_1, .ref s10_1, .int fm_111, .ref s11_1, .int nm_111, .ref s12_1, .ref s13_1, .ref s14_1, .int 1, .ref s15_1, .ref s16_1, .ref s17_1, .ref s18_1])))) := by rw [← va_pls hD9 hg0.1 hk_237 _]; exact hD
                            have hPI := hPI.put (e := .inr (3, [.ref s1_1, .ref s2_1, .ref s3_1, .ref s4_1, .ref s5_1, .ref s6_1, .ref s7_1, .int pa_111, .int lm_111, .ref s8_1, .ref s9_1, .ref s10_1, .int fm_111, .ref s11_1, .int nm_111, .ref s12_1, .ref s13_1, .ref s14_1, .int 1, .ref s15_1, .ref s16_1, .ref s17_1, .ref s18_1])) hg0 ⟨s1_1, s2_1, s3_1, s4_1, s5_1, s6_1, s7_1, pa_111, lm_111, s8_1, s9_1, s10_1, fm_111, s11_1, nm_111, s12_1, s13_1, s14_1, 1, s15_1, s16_1, s17_1, s18_1, rfl, fs1_1, fs2_1, fs3_1, fs4_1, fs5_1, fs6_1, fs7_1, flm_111, fs8_1, fs9_1, fs10_1, ffm_111, fs11_1, fnm_111, fs12_1, fs13_1, fs14_1, (Or.inl rfl), fs15_1, fs16_1, fs17_1, fs18_1⟩
                            have es_f_238 : va_up fl50 g0 (.inr (3, [.ref s1_1, .ref s2_1, .ref s3_1, .ref s4_1, .ref s5_1, .ref s6_1, .ref s7_1, .int pa_111, .int lm_111, .ref s8_1, .ref s9_1, .ref s10_1, .int fm_111, .ref s11_1, .int nm_111, .ref s12_1, .ref s13_1, .ref s14_1, .int 1, .ref s15_1, .ref s16_1, .ref s17_1, .ref s18_1])) g0 = .inr (3, [.ref s1_1, .ref s2_1, .ref s3_1, .ref s4_1, .ref s5_1, .ref s6_1, .ref s7_1, .int pa_111, .int lm_111, .ref s8_1, .ref s9_1, .ref s10_1, .int fm_111, .ref s11_1, .int nm_111, .ref s12_1, .ref s13_1, .ref s14_1, .int 1, .ref s15_1, .ref s16_1, .ref s17_1, .ref s18_1]) := va_up_self _ _ _
                            have eq_239 := (va_up_ne fl50 (.inr (3, [.ref s1_1, .ref s2_1, .ref s3_1, .ref s4_1, .ref s5_1, .ref s6_1, .ref s7_1, .int pa_111, .int lm_111, .ref s8_1, .ref s9_1, .ref s10_1, .int fm_111, .ref s11_1, .int nm_111, .ref s12_1, .ref s13_1, .ref s14_1, .int 1, .ref s15_1, .ref s16_1, .ref s17_1, .ref s18_1])) (isr_ne fs1_1 hg0 (by decide))).trans eq_103
                            have eq_240 := (va_up_ne fl50 (.inr (3, [.ref s1_1, .ref s2_1, .ref s3_1, .ref s4_1, .ref s5_1, .ref s6_1, .ref s7_1, .int pa_111, .int lm_111, .ref s8_1, .ref s9_1, .ref s10_1, .int fm_111, .ref s11_1, .int nm_111, .ref s12_1, .ref s13_1, .ref s14_1, .int 1, .ref s15_1, .ref s16_1, .ref s17_1, .ref s18_1])) (isr_ne fs2_1 hg0 (by decide))).trans eq_104
                            have eq_241 := (va_up_ne fl50 (.inr (3, [.ref s1_1, .ref s2_1, .ref s3_1, .ref s4_1, .ref s5_1, .ref s6_1, .ref s7_1, .int pa_111, .int lm_111, .ref s8_1, .ref s9_1, .ref s10_1, .int fm_111, .ref s11_1, .int nm_111, .ref s12_1, .ref s13_1, .ref s14_1, .int 1, .ref s15_1, .ref s16_1, .ref s17_1, .ref s18_1])) (isr_ne fs3_1 hg0 (by decide))).trans eq_105
                            have eq_242 := (va_up_ne fl50 (.inr (3, [.ref s1_1, .ref s2_1, .ref s3_1, .ref s4_1, .ref s5_1, .ref s6_1, .ref s7_1, .int pa_111, .int lm_111, .ref s8_1, .ref s9_1, .ref s10_1, .int fm_111, .ref s11_1, .int nm_111, .ref s12_1, .ref s13_1, .ref s14_1, .int 1, .ref s15_1, .ref s16_1, .ref s17_1, .ref s18_1])) (isr_ne fs4_1 hg0 (by decide))).trans eq_106
                            have eq_243 := (va_up_ne fl50 (.inr (3, [.ref s1_1, .ref s2_1, .ref s3_1, .ref s4_1, .ref s5_1, .ref s6_1, .ref s7_1, .int pa_111, .int lm_111, .ref s8_1, .ref s9_1, .ref s10_1, .int fm_111, .ref s11_1, .int nm_111, .ref s12_1, .ref s13_1, .ref s14_1, .int 1, .ref s15_1, .ref s16_1, .ref s17_1, .ref s18_1])) (isr_ne fs5_1 hg0 (by decide))).trans eq_107
                            have eq_244 := (va_up_ne fl50 (.inr (3, [.ref s1_1, .ref s2_1, .ref s3_1, .ref s4_1, .ref s5_1, .ref s6_1, .ref s7_1, .int pa_111, .int lm_111, .ref s8_1, .ref s9_1, .ref s10_1, .int fm_111, .ref s11_1, .int nm_111, .ref s12_1, .ref s13_1, .ref s14_1, .int 1, .ref s15_1, .ref s16_1, .ref s17_1, .ref s18_1])) (isr_ne fs8_1 hg0 (by decide))).trans eq_108
                            have eq_245 := (va_up_ne fl50 (.inr (3, [.ref s1_1, .ref s2_1, .ref s3_1, .ref s4_1, .ref s5_1, .ref s6_1, .ref s7_1, .int pa_111, .int lm_111, .ref s8_1, .ref s9_1, .ref s10_1, .int fm_111, .ref s11_1, .int nm_111, .ref s12_1, .ref s13_1, .ref s14_1, .int 1, .ref s15_1, .ref s16_1, .ref s17_1, .ref s18_1])) (isr_ne fs9_1 hg0 (by decide))).trans eq_109
                            have eq_246 := (va_up_ne fl50 (.inr (3, [.ref s1_1, .ref s2_1, .ref s3_1, .ref s4_1, .ref s5_1, .ref s6_1, .ref s7_1, .int pa_111, .int lm_111, .ref s8_1, .ref s9_1, .ref s10_1, .int fm_111, .ref s11_1, .int nm_111, .ref s12_1, .ref s13_1, .ref s14_1, .int 1, .ref s15_1, .ref s16_1, .ref s17_1, .ref s18_1])) (isr_ne fs10_1 hg0 (by decide))).trans eq_110
                            have eq_247 := (va_up_ne fl50 (.inr (3, [.ref s1_1, .ref s2_1, .ref s3_1, .ref s4_1, .ref s5_1, .ref s6_1, .ref s7_1, .int pa_111, .int lm_111, .ref s8_1, .ref s9_1, .ref s10_1, .int fm_111, .ref s11_1, .int nm_111, .ref s12_1, .ref s13_1, .ref s14_1, .int 1, .ref s15_1, .ref s16_1, .ref s17_1, .ref s18_1])) (isr_ne fs11_1 hg0 (by decide))).trans eg_112
                            have hfr := fr_up (S := (sK [10, 21, 22, 23, 24])) (e := .inr (3, [.ref s1_1, .ref s2_1, .ref s3_1, .ref s4_1, .ref s5_1, .ref s6_1, .ref s7_1, .int pa_111, .int lm_111, .ref s8_1, .ref s9_1, .ref s10_1, .int fm_111, .ref s11_1, .int nm_111, .ref s12_1, .ref s13_1, .ref s14_1, .int 1, .ref s15_1, .ref s16_1, .ref s17_1, .ref s18_1])) hfr hg0 (by decide)
                            generalize hg_f_238 : va_up fl50 g0 (.inr (3, [.ref s1_1, .ref s2_1, .ref s3_1, .ref s4_1, .ref s5_1, .ref s6_1, .ref s7_1, .int pa_111, .int lm_111, .ref s8_1, .ref s9_1, .ref s10_1, .int fm_111, .ref s11_1, .int nm_111, .ref s12_1, .ref s13_1, .ref s14_1, .int 1, .ref s15_1, .ref s16_1, .ref s17_1, .ref s18_1])) = f_238 at hP hD hPI es_f_238 eq_239 eq_240 eq_241 eq_242 eq_243 eq_244 eq_245 eq_246 eq_247 hfr
                            refine lv_aload_n hx hb dX3_find_140 rfl (lv_at hl 4 rfl) ?_
                            obtain ⟨k_248, hk_248⟩ := va_plg hg0.1 es_f_238
                            refine va_get (D := (dC, dI)) (ci := 3) (v := .ref s11_1) (C := RX3) (T := TX3) (N := 23) hx hb hts iX3_ hown hK hP k_248 hk_248 rfl 13 (by decide) (hts (.fieldLink RX3 44 "FieldLeavesModel" "found" "[I") (by decide +kernel)) (fun _ h9 => h9) rfl dX3_find_141 ?_
                            refine lv_aload_n hx hb dX3_find_144 rfl (lv_at hl 4 rfl) ?_
                            obtain ⟨k_249, hk_249⟩ := va_plg hg0.1 es_f_238
                            refine va_get (D := (dC, dI)) (ci := 3) (v := .int fm_111) (C := RX3) (T := TX3) (N := 23) hx hb hts iX3_ hown hK hP k_249 hk_249 rfl 12 (by decide) (hts (.fieldLink RX3 167 "FieldLeavesModel" "foundMany" "I") (by decide +kernel)) (fun _ h9 => h9) rfl dX3_find_145 ?_
                            refine lv_bipush (v := 24) hx hb dX3_find_148 (by decide) ?_
                            refine lv_icmp_ge (tgt := 160) hx hb dX3_find_150 (by decide) (fun c_250 => ?_) (fun c_250 => ?_)
                            · have c_250 := Int32.le_iff_toInt_le.mp c_250
                              refine lv_bipush (v := 24) hx hb dX3_find_160 (by decide) ?_
                              refine lv_iload hx hb dX3_find_162 (lv_at hl 0 rfl) ?_
                              obtain ⟨k_251, hk_251⟩ := va_plg fs11_1.1 eq_247
                              have h_251 : vp_in 24 25 := (vp_in_iff.mpr (by decide))
                              have fw_251 := updS (P := fun v => 0 ≤ v.toInt ∧ v.toInt < 6400) (k := Int32.toNatClampNeg 24) (v := z_126) fg_112 (by omega)
                              have hD9 := hD
                              refine va_iast hx hb hK hP hD hS k_251 0 hk_251 rfl h_251 dX3_find_164 (fun H locs hP hD hS => ?_)
                              have hP : va_P (dC, dI) vwCl (va_pl L (va_up f_238 s11_1 (.inl (kI, 25, .inl (upd gG (Int32.toNatClampNeg 24) z_126))))) H := by rw [← va_pls hD9 fs11_1.1 hk_251 _]; exact hP
                              have hD : va_D A (va_pl L (va_up f_238 s11_1 (.inl (kI, 25, .inl (upd gG (Int32.toNatClampNeg 24) z_126))))) := by rw [← va_pls hD9 fs11_1.1 hk_251 _]; exact hD
                              have hPI := hPI.put (e := .inl (kI, 25, .inl (upd gG (Int32.toNatClampNeg 24) z_126))) fs11_1 ⟨_, rfl, fw_251⟩
                              have es_f_252 : va_up f_238 s11_1 (.inl (kI, 25, .inl (upd gG (Int32.toNatClampNeg 24) z_126))) s11_1 = .inl (kI, 25, .inl (upd gG (Int32.toNatClampNeg 24) z_126)) := va_up_self _ _ _
                              have eq_253 := (va_up_ne f_238 (.inl (kI, 25, .inl (upd gG (Int32.toNatClampNeg 24) z_126))) (isr_ne hg0 fs11_1 (by decide))).trans es_f_238
                              have eq_254 := (va_up_ne f_238 (.inl (kI, 25, .inl (upd gG (Int32.toNatClampNeg 24) z_126))) (isr_ne fs1_1 fs11_1 (by decide))).trans eq_239
                              have eq_255 := (va_up_ne f_238 (.inl (kI, 25, .inl (upd gG (Int32.toNatClampNeg 24) z_126))) (isr_ne fs2_1 fs11_1 (by decide))).trans eq_240
                              have eq_256 := (va_up_ne f_238 (.inl (kI, 25, .inl (upd gG (Int32.toNatClampNeg 24) z_126))) (isr_ne fs3_1 fs11_1 (by decide))).trans eq_241
                              have eq_257 := (va_up_ne f_238 (.inl (kI, 25, .inl (upd gG (Int32.toNatClampNeg 24) z_126))) (isr_ne fs4_1 fs11_1 (by decide))).trans eq_242
                              have eq_258 := (va_up_ne f_238 (.inl (kI, 25, .inl (upd gG (Int32.toNatClampNeg 24) z_126))) (isr_ne fs5_1 fs11_1 (by decide))).trans eq_243
                              have eq_259 := (va_up_ne f_238 (.inl (kI, 25, .inl (upd gG (Int32.toNatClampNeg 24) z_126))) (isr_ne fs8_1 fs11_1 (by decide))).trans eq_244
                              have eq_260 := (va_up_ne f_238 (.inl (kI, 25, .inl (upd gG (Int32.toNatClampNeg 24) z_126))) (isr_ne fs9_1 fs11_1 (by decide))).trans eq_245
                              have eq_261 := (va_up_ne f_238 (.inl (kI, 25, .inl (upd gG (Int32.toNatClampNeg 24) z_126))) (isr_ne fs10_1 fs11_1 (by decide))).trans eq_246
                              have hfr := fr_up (S := (sK [10, 21, 22, 23, 24])) (e := .inl (kI, 25, .inl (upd gG (Int32.toNatClampNeg 24) z_126))) hfr fs11_1 (by decide)
                              generalize hg_f_252 : va_up f_238 s11_1 (.inl (kI, 25, .inl (upd gG (Int32.toNatClampNeg 24) z_126))) = f_252 at hP hD hPI es_f_252 eq_253 eq_254 eq_255 eq_256 eq_257 eq_258 eq_259 eq_260 eq_261 hfr
                              refine lv_aload_n hx hb dX3_find_165 rfl (lv_at hl 4 rfl) ?_
                              refine lv_dup hx hb dX3_find_166 rfl ?_
                              obtain ⟨k_262, hk_262⟩ := va_plg hg0.1 eq_253
                              refine va_get (D := (dC, dI)) (ci := 3) (v := .int fm_111) (C := RX3) (T := TX3) (N := 23) hx hb hts iX3_ hown hK hP k_262 hk_262 rfl 12 (by decide) (hts (.fieldLink RX3 167 "FieldLeavesModel" "foundMany" "I") (by decide +kernel)) (fun _ h9 => h9) rfl dX3_find_167 ?_
                              refine lv_aload_n hx hb dX3_find_170 rfl (lv_at hl 4 rfl) ?_
                              obtain ⟨k_263, hk_263⟩ := va_plg hg0.1 eq_253
                              refine va_get (D := (dC, dI)) (ci := 3) (v := .int fm_111) (C := RX3) (T := TX3) (N := 23) hx hb hts iX3_ hown hK hP k_263 hk_263 rfl 12 (by decide) (hts (.fieldLink RX3 167 "FieldLeavesModel" "foundMany" "I") (by decide +kernel)) (fun _ h9 => h9) rfl dX3_find_171 ?_
                              refine lv_bipush (v := 24) hx hb dX3_find_174 (by decide) ?_
                              refine lv_icmp_ge (tgt := 183) hx hb dX3_find_176 (by decide) (fun c_264 => ?_) (fun c_264 => ?_)
                              · have c_264 := Int32.le_iff_toInt_le.mp c_264
                                refine lv_iconst (v := 0) hx hb dX3_find_183 (by decide) ?_
                                refine lv_iadd hx hb dX3_find_184 ?_
                                refine lv_topi (fun z_265 ez_265 => ?_)
                                have kz_265 := add_toInt ez_265 (by omega) (by omega)
                                obtain ⟨k_266, hk_266⟩ := va_plg hg0.1 eq_253
                                have hD9 := hD
                                have rg_267 : 0 ≤ Int32.toInt z_265 ∧ Int32.toInt z_265 ≤ 24 := by constructor <;> omega
                                refine va_put (D := (dC, dI)) (ci := 3) (v := .int z_265) (ty := .int) (C := RX3) (T := TX3) (N := 23) hx hb hts iX3_ tyX3 tyX3_ok nmX3 hown hK hP hD hS k_266 hk_266 rfl 12 (by decide) (hts (.fieldLink RX3 167 "FieldLeavesModel" "foundMany" "I") (by decide +kernel)) (fun _ h9 => h9) rfl (by decide +kernel) rfl rfl (Nat.le_of_ble_eq_true rfl) dX3_find_185 (fun H locs hP hD hS => ?_)
                                have hP : va_P (dC, dI) vwCl (va_pl L (va_up f_252 g0 (.inr (3, [.ref s1_1, .ref s2_1, .ref s3_1, .ref s4_1, .ref s5_1, .ref s6_1, .ref s7_1, .int pa_111, .int lm_111, .ref s8_1, .ref s9_1, .ref s10_1, .int z_265, .ref s11_1, .int nm_111, .ref s12_1, .ref s13_1, .ref s14_1, .int 1, .ref s15_1, .ref s16_1, .ref s17_1, .ref s18_1])))) H := by rw [← va_pls hD9 hg0.1 hk_266 _]; exact hP
                                have hD : va_D A (va_pl L (va_up f_252 g0 (.inr (3, [.ref s1_1, .ref s2_1, .ref s3_1, .ref s4_1, .ref s5_1, .ref s6_1, .ref s7_1, .int pa_111, .int lm_111, .ref s8_1, .ref s9_1, .ref s10_1, .int z_265, .ref s11_1, .int nm_111, .ref s12_1, .ref s13_1, .ref s14_1, .int 1, .ref s15_1, .ref s16_1, .ref s17_1, .ref s18_1])))) := by rw [← va_pls hD9 hg0.1 hk_266 _]; exact hD
                                have hPI := hPI.put (e := .inr (3, [.ref s1_1, .ref s2_1, .ref s3_1, .ref s4_1, .ref s5_1, .ref s6_1, .ref s7_1, .int pa_111, .int lm_111, .ref s8_1, .ref s9_1, .ref s10_1, .int z_265, .ref s11_1, .int nm_111, .ref s12_1, .ref s13_1, .ref s14_1, .int 1, .ref s15_1, .ref s16_1, .ref s17_1, .ref s18_1])) hg0 ⟨s1_1, s2_1, s3_1, s4_1, s5_1, s6_1, s7_1, pa_111, lm_111, s8_1, s9_1, s10_1, z_265, s11_1, nm_111, s12_1, s13_1, s14_1, 1, s15_1, s16_1, s17_1, s18_1, rfl, fs1_1, fs2_1, fs3_1, fs4_1, fs5_1, fs6_1, fs7_1, flm_111, fs8_1, fs9_1, fs10_1, rg_267, fs11_1, fnm_111, fs12_1, fs13_1, fs14_1, (Or.inl rfl), fs15_1, fs16_1, fs17_1, fs18_1⟩
                                have es_f_268 : va_up f_252 g0 (.inr (3, [.ref s1_1, .ref s2_1, .ref s3_1, .ref s4_1, .ref s5_1, .ref s6_1, .ref s7_1, .int pa_111, .int lm_111, .ref s8_1, .ref s9_1, .ref s10_1, .int z_265, .ref s11_1, .int nm_111, .ref s12_1, .ref s13_1, .ref s14_1, .int 1, .ref s15_1, .ref s16_1, .ref s17_1, .ref s18_1])) g0 = .inr (3, [.ref s1_1, .ref s2_1, .ref s3_1, .ref s4_1, .ref s5_1, .ref s6_1, .ref s7_1, .int pa_111, .int lm_111, .ref s8_1, .ref s9_1, .ref s10_1, .int z_265, .ref s11_1, .int nm_111, .ref s12_1, .ref s13_1, .ref s14_1, .int 1, .ref s15_1, .ref s16_1, .ref s17_1, .ref s18_1]) := va_up_self _ _ _
                                have eq_269 := (va_up_ne f_252 (.inr (3, [.ref s1_1, .ref s2_1, .ref s3_1, .ref s4_1, .ref s5_1, .ref s6_1, .ref s7_1, .int pa_111, .int lm_111, .ref s8_1, .ref s9_1, .ref s10_1, .int z_265, .ref s11_1, .int nm_111, .ref s12_1, .ref s13_1, .ref s14_1, .int 1, .ref s15_1, .ref s16_1, .ref s17_1, .ref s18_1])) (isr_ne fs1_1 hg0 (by decide))).trans eq_254
                                have eq_270 := (va_up_ne f_252 (.inr (3, [.ref s1_1, .ref s2_1, .ref s3_1, .ref s4_1, .ref s5_1, .ref s6_1, .ref s7_1, .int pa_111, .int lm_111, .ref s8_1, .ref s9_1, .ref s10_1, .int z_265, .ref s11_1, .int nm_111, .ref s12_1, .ref s13_1, .ref s14_1, .int 1, .ref s15_1, .ref s16_1, .ref s17_1, .ref s18_1])) (isr_ne fs2_1 hg0 (by decide))).trans eq_255
                                have eq_271 := (va_up_ne f_252 (.inr (3, [.ref s1_1, .ref s2_1, .ref s3_1, .ref s4_1, .ref s5_1, .ref s6_1, .ref s7_1, .int pa_111, .int lm_111, .ref s8_1, .ref s9_1, .ref s10_1, .int z_265, .ref s11_1, .int nm_111, .ref s12_1, .ref s13_1, .ref s14_1, .int 1, .ref s15_1, .ref s16_1, .ref s17_1, .ref s18_1])) (isr_ne fs3_1 hg0 (by decide))).trans eq_256
                                have eq_272 := (va_up_ne f_252 (.inr (3, [.ref s1_1, .ref s2_1, .ref s3_1, .ref s4_1, .ref s5_1, .ref s6_1, .ref s7_1, .int pa_111, .int lm_111, .ref s8_1, .ref s9_1, .ref s10_1, .int z_265, .ref s11_1, .int nm_111, .ref s12_1, .ref s13_1, .ref s14_1, .int 1, .ref s15_1, .ref s16_1, .ref s17_1, .ref s18_1])) (isr_ne fs4_1 hg0 (by decide))).trans eq_257
                                have eq_273 := (va_up_ne f_252 (.inr (3, [.ref s1_1, .ref s2_1, .ref s3_1, .ref s4_1, .ref s5_1, .ref s6_1, .ref s7_1, .int pa_111, .int lm_111, .ref s8_1, .ref s9_1, .ref s10_1, .int z_265, .ref s11_1, .int nm_111, .ref s12_1, .ref s13_1, .ref s14_1, .int 1, .ref s15_1, .ref s16_1, .ref s17_1, .ref s18_1])) (isr_ne fs5_1 hg0 (by decide))).trans eq_258
                                have eq_274 := (va_up_ne f_252 (.inr (3, [.ref s1_1, .ref s2_1, .ref s3_1, .ref s4_1, .ref s5_1, .ref s6_1, .ref s7_1, .int pa_111, .int lm_111, .ref s8_1, .ref s9_1, .ref s10_1, .int z_265, .ref s11_1, .int nm_111, .ref s12_1, .ref s13_1, .ref s14_1, .int 1, .ref s15_1, .ref s16_1, .ref s17_1, .ref s18_1])) (isr_ne fs8_1 hg0 (by decide))).trans eq_259
                                have eq_275 := (va_up_ne f_252 (.inr (3, [.ref s1_1, .ref s2_1, .ref s3_1, .ref s4_1, .ref s5_1, .ref s6_1, .ref s7_1, .int pa_111, .int lm_111, .ref s8_1, .ref s9_1, .ref s10_1, .int z_265, .ref s11_1, .int nm_111, .ref s12_1, .ref s13_1, .ref s14_1, .int 1, .ref s15_1, .ref s16_1, .ref s17_1, .ref s18_1])) (isr_ne fs9_1 hg0 (by decide))).trans eq_260
                                have eq_276 := (va_up_ne f_252 (.inr (3, [.ref s1_1, .ref s2_1, .ref s3_1, .ref s4_1, .ref s5_1, .ref s6_1, .ref s7_1, .int pa_111, .int lm_111, .ref s8_1, .ref s9_1, .ref s10_1, .int z_265, .ref s11_1, .int nm_111, .ref s12_1, .ref s13_1, .ref s14_1, .int 1, .ref s15_1, .ref s16_1, .ref s17_1, .ref s18_1])) (isr_ne fs10_1 hg0 (by decide))).trans eq_261
                                have eq_277 := (va_up_ne f_252 (.inr (3, [.ref s1_1, .ref s2_1, .ref s3_1, .ref s4_1, .ref s5_1, .ref s6_1, .ref s7_1, .int pa_111, .int lm_111, .ref s8_1, .ref s9_1, .ref s10_1, .int z_265, .ref s11_1, .int nm_111, .ref s12_1, .ref s13_1, .ref s14_1, .int 1, .ref s15_1, .ref s16_1, .ref s17_1, .ref s18_1])) (isr_ne fs11_1 hg0 (by decide))).trans es_f_252
                                have hfr := fr_up (S := (sK [10, 21, 22, 23, 24])) (e := .inr (3, [.ref s1_1, .ref s2_1, .ref s3_1, .ref s4_1, .ref s5_1, .ref s6_1, .ref s7_1, .int pa_111, .int lm_111, .ref s8_1, .ref s9_1, .ref s10_1, .int z_265, .ref s11_1, .int nm_111, .ref s12_1, .ref s13_1, .ref s14_1, .int 1, .ref s15_1, .ref s16_1, .ref s17_1, .ref s18_1])) hfr hg0 (by decide)
                                generalize hg_f_268 : va_up f_252 g0 (.inr (3, [.ref s1_1, .ref s2_1, .ref s3_1, .ref s4_1, .ref s5_1, .ref s6_1, .ref s7_1, .int pa_111, .int lm_111, .ref s8_1, .ref s9_1, .ref s10_1, .int z_265, .ref s11_1, .int nm_111, .ref s12_1, .ref s13_1, .ref s14_1, .int 1, .ref s15_1, .ref s16_1, .ref s17_1, .ref s18_1])) = f_268 at hP hD hPI es_f_268 eq_269 eq_270 eq_271 eq_272 eq_273 eq_274 eq_275 eq_276 eq_277 hfr
                                obtain ⟨i_278, ei_278⟩ : ∃ y : Int32, y = i4 + 1 := ⟨_, rfl⟩
                                refine lv_iinc (v := i_278) (lv' := [(4, .int i_278), (5, .int z_126), (3, .int z_102), (2, .int i2), (0, .ref g0), (1, .int o0)]) hx hb dX3_find_188 hl (k := 1) rfl (by rw [ei_278]; rfl) (by decide) rfl (fun ls hl => ?_)
                                have ki_278 := inc_toInt ei_278 (by omega)
                                refine lv_goto (tgt := 50) hx hb dX3_find_191 (by decide) ?_
                                exact ih_50 i_278 f_268 _ _ _  (by omega) (by omega) ⟨hfr, (by first | exact ⟨(show KQ2 f f_268 g0 from ⟨(by rw [es_f_268]; exact hk7), (by rw [es_f_268]; exact hk8)⟩), (by rw [(show cI (f_268 g0) 14 = nm_111 from by rw [es_f_268]; rfl)]; exact hn14), Or.inl ⟨(show cI (f_268 g0) 18 = 1 from by rw [es_f_268]; rfl), (by rw [sq_step (by omega) ki_278, r_lk_val (by omega) (hs_iff.mpr (by rw [← ez_118]; exact hp_120)) er_125 (by omega) hq_t_127, ad_new ((nbr_mem hq_132 (by omega)).mp (by omega))]; exact ⟨_, un_row hU fs11_1 eq_277, (by rw [(show cI (f_268 g0) 12 = z_265 from by rw [es_f_268]; rfl)]; rw [kz_265, List.length_append]; show _ = ((_ + 1 : Nat) : Int); omega), rf_push hfm2 hat2⟩)⟩⟩ | (exfalso; omega))⟩ hPI hP hD hS (lv_sub hl [0, 2, 3, 4, 5] rfl)
                              · have c_264 := mt Int32.le_iff_toInt_le.mpr c_264
                                refine lv_iconst (v := 1) hx hb dX3_find_179 (by decide) ?_
                                refine lv_goto (tgt := 184) hx hb dX3_find_180 (by decide) ?_
                                refine lv_iadd hx hb dX3_find_184 ?_
                                refine lv_topi (fun z_279 ez_279 => ?_)
                                have kz_279 := add_toInt ez_279 (by omega) (by omega)
                                obtain ⟨k_280, hk_280⟩ := va_plg hg0.1 eq_253
                                have hD9 := hD
                                have rg_281 : 0 ≤ Int32.toInt z_279 ∧ Int32.toInt z_279 ≤ 24 := by constructor <;> omega
                                refine va_put (D := (dC, dI)) (ci := 3) (v := .int z_279) (ty := .int) (C := RX3) (T := TX3) (N := 23) hx hb hts iX3_ tyX3 tyX3_ok nmX3 hown hK hP hD hS k_280 hk_280 rfl 12 (by decide) (hts (.fieldLink RX3 167 "FieldLeavesModel" "foundMany" "I") (by decide +kernel)) (fun _ h9 => h9) rfl (by decide +kernel) rfl rfl (Nat.le_of_ble_eq_true rfl) dX3_find_185 (fun H locs hP hD hS => ?_)
                                have hP : va_P (dC, dI) vwCl (va_pl L (va_up f_252 g0 (.inr (3, [.ref s1_1, .ref s2_1, .ref s3_1, .ref s4_1, .ref s5_1, .ref s6_1, .ref s7_1, .int pa_111, .int lm_111, .ref s8_1, .ref s9_1, .ref s10_1, .int z_279, .ref s11_1, .int nm_111, .ref s12_1, .ref s13_1, .ref s14_1, .int 1, .ref s15_1, .ref s16_1, .ref s17_1, .ref s18_1])))) H := by rw [← va_pls hD9 hg0.1 hk_280 _]; exact hP
                                have hD : va_D A (va_pl L (va_up f_252 g0 (.inr (3, [.ref s1_1, .ref s2_1, .ref s3_1, .ref s4_1, .ref s5_1, .ref s6_1, .ref s7_1, .int pa_111, .int lm_111, .ref s8_1, .ref s9_1, .ref s10_1, .int z_279, .ref s11_1, .int nm_111, .ref s12_1, .ref s13_1, .ref s14_1, .int 1, .ref s15_1, .ref s16_1, .ref s17_1, .ref s18_1])))) := by rw [← va_pls hD9 hg0.1 hk_280 _]; exact hD
                                have hPI := hPI.put (e := .inr (3, [.ref s1_1, .ref s2_1, .ref s3_1, .ref s4_1, .ref s5_1, .ref s6_1, .ref s7_1, .int pa_111, .int lm_111, .ref s8_1, .ref s9_1, .ref s10_1, .int z_279, .ref s11_1, .int nm_111, .ref s12_1, .ref s13_1, .ref s14_1, .int 1, .ref s15_1, .ref s16_1, .ref s17_1, .ref s18_1])) hg0 ⟨s1_1, s2_1, s3_1, s4_1, s5_1, s6_1, s7_1, pa_111, lm_111, s8_1, s9_1, s10_1, z_279, s11_1, nm_111, s12_1, s13_1, s14_1, 1, s15_1, s16_1, s17_1, s18_1, rfl, fs1_1, fs2_1, fs3_1, fs4_1, fs5_1, fs6_1, fs7_1, flm_111, fs8_1, fs9_1, fs10_1, rg_281, fs11_1, fnm_111, fs12_1, fs13_1, fs14_1, (Or.inl rfl), fs15_1, fs16_1, fs17_1, fs18_1⟩
                                have es_f_282 : va_up f_252 g0 (.inr (3, [.ref s1_1, .ref s2_1, .ref s3_1, .ref s4_1, .ref s5_1, .ref s6_1, .ref s7_1, .int pa_111, .int lm_111, .ref s8_1, .ref s9_1, .ref s10_1, .int z_279, .ref s11_1, .int nm_111, .ref s12_1, .ref s13_1, .ref s14_1, .int 1, .ref s15_1, .ref s16_1, .ref s17_1, .ref s18_1])) g0 = .inr (3, [.ref s1_1, .ref s2_1, .ref s3_1, .ref s4_1, .ref s5_1, .ref s6_1, .ref s7_1, .int pa_111, .int lm_111, .ref s8_1, .ref s9_1, .ref s10_1, .int z_279, .ref s11_1, .int nm_111, .ref s12_1, .ref s13_1, .ref s14_1, .int 1, .ref s15_1, .ref s16_1, .ref s17_1, .ref s18_1]) := va_up_self _ _ _
                                have eq_283 := (va_up_ne f_252 (.inr (3, [.ref s1_1, .ref s2_1, .ref s3_1, .ref s4_1, .ref s5_1, .ref s6_1, .ref s7_1, .int pa_111, .int lm_111, .ref s8_1, .ref s9_1, .ref s10_1, .int z_279, .ref s11_1, .int nm_111, .ref s12_1, .ref s13_1, .ref s14_1, .int 1, .ref s15_1, .ref s16_1, .ref s17_1, .ref s18_1])) (isr_ne fs1_1 hg0 (by decide))).trans eq_254
                                have eq_284 := (va_up_ne f_252 (.inr (3, [.ref s1_1, .ref s2_1, .ref s3_1, .ref s4_1, .ref s5_1, .ref s6_1, .ref s7_1, .int pa_111, .int lm_111, .ref s8_1, .ref s9_1, .ref s10_1, .int z_279, .ref s11_1, .int nm_111, .ref s12_1, .ref s13_1, .ref s14_1, .int 1, .ref s15_1, .ref s16_1, .ref s17_1, .ref s18_1])) (isr_ne fs2_1 hg0 (by decide))).trans eq_255
                                have eq_285 := (va_up_ne f_252 (.inr (3, [.ref s1_1, .ref s2_1, .ref s3_1, .ref s4_1, .ref s5_1, .ref s6_1, .ref s7_1, .int pa_111, .int lm_111, .ref s8_1, .ref s9_1, .ref s10_1, .int z_279, .ref s11_1, .int nm_111, .ref s12_1, .ref s13_1, .ref s14_1, .int 1, .ref s15_1, .ref s16_1, .ref s17_1, .ref s18_1])) (isr_ne fs3_1 hg0 (by decide))).trans eq_256
                                have eq_286 := (va_up_ne f_252 (.inr (3, [.ref s1_1, .ref s2_1, .ref s3_1, .ref s4_1, .ref s5_1, .ref s6_1, .ref s7_1, .int pa_111, .int lm_111, .ref s8_1, .ref s9_1, .ref s10_1, .int z_279, .ref s11_1, .int nm_111, .ref s12_1, .ref s13_1, .ref s14_1, .int 1, .ref s15_1, .ref s16_1, .ref s17_1, .ref s18_1])) (isr_ne fs4_1 hg0 (by decide))).trans eq_257
                                have eq_287 := (va_up_ne f_252 (.inr (3, [.ref s1_1, .ref s2_1, .ref s3_1, .ref s4_1, .ref s5_1, .ref s6_1, .ref s7_1, .int pa_111, .int lm_111, .ref s8_1, .ref s9_1, .ref s10_1, .int z_279, .ref s11_1, .int nm_111, .ref s12_1, .ref s13_1, .ref s14_1, .int 1, .ref s15_1, .ref s16_1, .ref s17_1, .ref s18_1])) (isr_ne fs5_1 hg0 (by decide))).trans eq_258
                                have eq_288 := (va_up_ne f_252 (.inr (3, [.ref s1_1, .ref s2_1, .ref s3_1, .ref s4_1, .ref s5_1, .ref s6_1, .ref s7_1, .int pa_111, .int lm_111, .ref s8_1, .ref s9_1, .ref s10_1, .int z_279, .ref s11_1, .int nm_111, .ref s12_1, .ref s13_1, .ref s14_1, .int 1, .ref s15_1, .ref s16_1, .ref s17_1, .ref s18_1])) (isr_ne fs8_1 hg0 (by decide))).trans eq_259
                                have eq_289 := (va_up_ne f_252 (.inr (3, [.ref s1_1, .ref s2_1, .ref s3_1, .ref s4_1, .ref s5_1, .ref s6_1, .ref s7_1, .int pa_111, .int lm_111, .ref s8_1, .ref s9_1, .ref s10_1, .int z_279, .ref s11_1, .int nm_111, .ref s12_1, .ref s13_1, .ref s14_1, .int 1, .ref s15_1, .ref s16_1, .ref s17_1, .ref s18_1])) (isr_ne fs9_1 hg0 (by decide))).trans eq_260
                                have eq_290 := (va_up_ne f_252 (.inr (3, [.ref s1_1, .ref s2_1, .ref s3_1, .ref s4_1, .ref s5_1, .ref s6_1, .ref s7_1, .int pa_111, .int lm_111, .ref s8_1, .ref s9_1, .ref s10_1, .int z_279, .ref s11_1, .int nm_111, .ref s12_1, .ref s13_1, .ref s14_1, .int 1, .ref s15_1, .ref s16_1, .ref s17_1, .ref s18_1])) (isr_ne fs10_1 hg0 (by decide))).trans eq_261
                                have eq_291 := (va_up_ne f_252 (.inr (3, [.ref s1_1, .ref s2_1, .ref s3_1, .ref s4_1, .ref s5_1, .ref s6_1, .ref s7_1, .int pa_111, .int lm_111, .ref s8_1, .ref s9_1, .ref s10_1, .int z_279, .ref s11_1, .int nm_111, .ref s12_1, .ref s13_1, .ref s14_1, .int 1, .ref s15_1, .ref s16_1, .ref s17_1, .ref s18_1])) (isr_ne fs11_1 hg0 (by decide))).trans es_f_252
                                have hfr := fr_up (S := (sK [10, 21, 22, 23, 24])) (e := .inr (3, [.ref s1_1, .ref s2_1, .ref s3_1, .ref s4_1, .ref s5_1, .ref s6_1, .ref s7_1, .int pa_111, .int lm_111, .ref s8_1, .ref s9_1, .ref s10_1, .int z_279, .ref s11_1, .int nm_111, .ref s12_1, .ref s13_1, .ref s14_1, .int 1, .ref s15_1, .ref s16_1, .ref s17_1, .ref s18_1])) hfr hg0 (by decide)
                                generalize hg_f_282 : va_up f_252 g0 (.inr (3, [.ref s1_1, .ref s2_1, .ref s3_1, .ref s4_1, .ref s5_1, .ref s6_1, .ref s7_1, .int pa_111, .int lm_111, .ref s8_1, .ref s9_1, .ref s10_1, .int z_279, .ref s11_1, .int nm_111, .ref s12_1, .ref s13_1, .ref s14_1, .int 1, .ref s15_1, .ref s16_1, .ref s17_1, .ref s18_1])) = f_282 at hP hD hPI es_f_282 eq_283 eq_284 eq_285 eq_286 eq_287 eq_288 eq_289 eq_290 eq_291 hfr
                                obtain ⟨i_292, ei_292⟩ : ∃ y : Int32, y = i4 + 1 := ⟨_, rfl⟩
                                refine lv_iinc (v := i_292) (lv' := [(4, .int i_292), (5, .int z_126), (3, .int z_102), (2, .int i2), (0, .ref g0), (1, .int o0)]) hx hb dX3_find_188 hl (k := 1) rfl (by rw [ei_292]; rfl) (by decide) rfl (fun ls hl => ?_)
                                have ki_292 := inc_toInt ei_292 (by omega)
                                refine lv_goto (tgt := 50) hx hb dX3_find_191 (by decide) ?_
                                exact ih_50 i_292 f_282 _ _ _  (by omega) (by omega) ⟨hfr, (by first | exact ⟨(show KQ2 f f_282 g0 from ⟨(by rw [es_f_282]; exact hk7), (by rw [es_f_282]; exact hk8)⟩), (by rw [(show cI (f_282 g0) 14 = nm_111 from by rw [es_f_282]; rfl)]; exact hn14), Or.inl ⟨(show cI (f_282 g0) 18 = 1 from by rw [es_f_282]; rfl), (by rw [sq_step (by omega) ki_292, r_lk_val (by omega) (hs_iff.mpr (by rw [← ez_118]; exact hp_120)) er_125 (by omega) hq_t_127, ad_new ((nbr_mem hq_132 (by omega)).mp (by omega))]; exact ⟨_, un_row hU fs11_1 eq_291, (by rw [(show cI (f_282 g0) 12 = z_279 from by rw [es_f_282]; rfl)]; rw [kz_279, List.length_append]; show _ = ((_ + 1 : Nat) : Int); omega), rf_push hfm2 hat2⟩)⟩⟩ | (exfalso; omega))⟩ hPI hP hD hS (lv_sub hl [0, 2, 3, 4, 5] rfl)
                            · have c_250 := mt Int32.le_iff_toInt_le.mpr c_250
                              refine lv_aload_n hx hb dX3_find_153 rfl (lv_at hl 4 rfl) ?_
                              obtain ⟨k_293, hk_293⟩ := va_plg hg0.1 es_f_238
                              refine va_get (D := (dC, dI)) (ci := 3) (v := .int fm_111) (C := RX3) (T := TX3) (N := 23) hx hb hts iX3_ hown hK hP k_293 hk_293 rfl 12 (by decide) (hts (.fieldLink RX3 167 "FieldLeavesModel" "foundMany" "I") (by decide +kernel)) (fun _ h9 => h9) rfl dX3_find_154 ?_
                              refine lv_goto (tgt := 162) hx hb dX3_find_157 (by decide) ?_
                              refine lv_iload hx hb dX3_find_162 (lv_at hl 0 rfl) ?_
                              obtain ⟨k_294, hk_294⟩ := va_plg fs11_1.1 eq_247
                              have h_294 : vp_in fm_111 25 := (vp_in_iff.mpr (by constructor <;> omega))
                              have fw_294 := updS (P := fun v => 0 ≤ v.toInt ∧ v.toInt < 6400) (k := Int32.toNatClampNeg fm_111) (v := z_126) fg_112 (by omega)
                              have hD9 := hD
                              refine va_iast hx hb hK hP hD hS k_294 0 hk_294 rfl h_294 dX3_find_164 (fun H locs hP hD hS => ?_)
                              have hP : va_P (dC, dI) vwCl (va_pl L (va_up f_238 s11_1 (.inl (kI, 25, .inl (upd gG (Int32.toNatClampNeg fm_111) z_126))))) H := by rw [← va_pls hD9 fs11_1.1 hk_294 _]; exact hP
                              have hD : va_D A (va_pl L (va_up f_238 s11_1 (.inl (kI, 25, .inl (upd gG (Int32.toNatClampNeg fm_111) z_126))))) := by rw [← va_pls hD9 fs11_1.1 hk_294 _]; exact hD
                              have hPI := hPI.put (e := .inl (kI, 25, .inl (upd gG (Int32.toNatClampNeg fm_111) z_126))) fs11_1 ⟨_, rfl, fw_294⟩
                              have es_f_295 : va_up f_238 s11_1 (.inl (kI, 25, .inl (upd gG (Int32.toNatClampNeg fm_111) z_126))) s11_1 = .inl (kI, 25, .inl (upd gG (Int32.toNatClampNeg fm_111) z_126)) := va_up_self _ _ _
                              have eq_296 := (va_up_ne f_238 (.inl (kI, 25, .inl (upd gG (Int32.toNatClampNeg fm_111) z_126))) (isr_ne hg0 fs11_1 (by decide))).trans es_f_238
                              have eq_297 := (va_up_ne f_238 (.inl (kI, 25, .inl (upd gG (Int32.toNatClampNeg fm_111) z_126))) (isr_ne fs1_1 fs11_1 (by decide))).trans eq_239
                              have eq_298 := (va_up_ne f_238 (.inl (kI, 25, .inl (upd gG (Int32.toNatClampNeg fm_111) z_126))) (isr_ne fs2_1 fs11_1 (by decide))).trans eq_240
                              have eq_299 := (va_up_ne f_238 (.inl (kI, 25, .inl (upd gG (Int32.toNatClampNeg fm_111) z_126))) (isr_ne fs3_1 fs11_1 (by decide))).trans eq_241
                              have eq_300 := (va_up_ne f_238 (.inl (kI, 25, .inl (upd gG (Int32.toNatClampNeg fm_111) z_126))) (isr_ne fs4_1 fs11_1 (by decide))).trans eq_242
                              have eq_301 := (va_up_ne f_238 (.inl (kI, 25, .inl (upd gG (Int32.toNatClampNeg fm_111) z_126))) (isr_ne fs5_1 fs11_1 (by decide))).trans eq_243
                              have eq_302 := (va_up_ne f_238 (.inl (kI, 25, .inl (upd gG (Int32.toNatClampNeg fm_111) z_126))) (isr_ne fs8_1 fs11_1 (by decide))).trans eq_244
                              have eq_303 := (va_up_ne f_238 (.inl (kI, 25, .inl (upd gG (Int32.toNatClampNeg fm_111) z_126))) (isr_ne fs9_1 fs11_1 (by decide))).trans eq_245
                              have eq_304 := (va_up_ne f_238 (.inl (kI, 25, .inl (upd gG (Int32.toNatClampNeg fm_111) z_126))) (isr_ne fs10_1 fs11_1 (by decide))).trans eq_246
                              have hfr := fr_up (S := (sK [10, 21, 22, 23, 24])) (e := .inl (kI, 25, .inl (upd gG (Int32.toNatClampNeg fm_111) z_126))) hfr fs11_1 (by decide)
                              generalize hg_f_295 : va_up f_238 s11_1 (.inl (kI, 25, .inl (upd gG (Int32.toNatClampNeg fm_111) z_126))) = f_295 at hP hD hPI es_f_295 eq_296 eq_297 eq_298 eq_299 eq_300 eq_301 eq_302 eq_303 eq_304 hfr
                              refine lv_aload_n hx hb dX3_find_165 rfl (lv_at hl 4 rfl) ?_
                              refine lv_dup hx hb dX3_find_166 rfl ?_
                              obtain ⟨k_305, hk_305⟩ := va_plg hg0.1 eq_296
                              refine va_get (D := (dC, dI)) (ci := 3) (v := .int fm_111) (C := RX3) (T := TX3) (N := 23) hx hb hts iX3_ hown hK hP k_305 hk_305 rfl 12 (by decide) (hts (.fieldLink RX3 167 "FieldLeavesModel" "foundMany" "I") (by decide +kernel)) (fun _ h9 => h9) rfl dX3_find_167 ?_
                              refine lv_aload_n hx hb dX3_find_170 rfl (lv_at hl 4 rfl) ?_
                              obtain ⟨k_306, hk_306⟩ := va_plg hg0.1 eq_296
                              refine va_get (D := (dC, dI)) (ci := 3) (v := .int fm_111) (C := RX3) (T := TX3) (N := 23) hx hb hts iX3_ hown hK hP k_306 hk_306 rfl 12 (by decide) (hts (.fieldLink RX3 167 "FieldLeavesModel" "foundMany" "I") (by decide +kernel)) (fun _ h9 => h9) rfl dX3_find_171 ?_
                              refine lv_bipush (v := 24) hx hb dX3_find_174 (by decide) ?_
                              refine lv_icmp_ge (tgt := 183) hx hb dX3_find_176 (by decide) (fun c_307 => ?_) (fun c_307 => ?_)
                              · have c_307 := Int32.le_iff_toInt_le.mp c_307
                                refine lv_iconst (v := 0) hx hb dX3_find_183 (by decide) ?_
                                refine lv_iadd hx hb dX3_find_184 ?_
                                refine lv_topi (fun z_308 ez_308 => ?_)
                                have kz_308 := add_toInt ez_308 (by omega) (by omega)
                                obtain ⟨k_309, hk_309⟩ := va_plg hg0.1 eq_296
                                have hD9 := hD
                                have rg_310 : 0 ≤ Int32.toInt z_308 ∧ Int32.toInt z_308 ≤ 24 := by constructor <;> omega
                                refine va_put (D := (dC, dI)) (ci := 3) (v := .int z_308) (ty := .int) (C := RX3) (T := TX3) (N := 23) hx hb hts iX3_ tyX3 tyX3_ok nmX3 hown hK hP hD hS k_309 hk_309 rfl 12 (by decide) (hts (.fieldLink RX3 167 "FieldLeavesModel" "foundMany" "I") (by decide +kernel)) (fun _ h9 => h9) rfl (by decide +kernel) rfl rfl (Nat.le_of_ble_eq_true rfl) dX3_find_185 (fun H locs hP hD hS => ?_)
                                have hP : va_P (dC, dI) vwCl (va_pl L (va_up f_295 g0 (.inr (3, [.ref s1_1, .ref s2_1, .ref s3_1, .ref s4_1, .ref s5_1, .ref s6_1, .ref s7_1, .int pa_111, .int lm_111, .ref s8_1, .ref s9_1, .ref s10_1, .int z_308, .ref s11_1, .int nm_111, .ref s12_1, .ref s13_1, .ref s14_1, .int 1, .ref s15_1, .ref s16_1, .ref s17_1, .ref s18_1])))) H := by rw [← va_pls hD9 hg0.1 hk_309 _]; exact hP
                                have hD : va_D A (va_pl L (va_up f_295 g0 (.inr (3, [.ref s1_1, .ref s2_1, .ref s3_1, .ref s4_1, .ref s5_1, .ref s6_1, .ref s7_1, .int pa_111, .int lm_111, .ref s8_1, .ref s9_1, .ref s10_1, .int z_308, .ref s11_1, .int nm_111, .ref s12_1, .ref s13_1, .ref s14_1, .int 1, .ref s15_1, .ref s16_1, .ref s17_1, .ref s18_1])))) := by rw [← va_pls hD9 hg0.1 hk_309 _]; exact hD
                                have hPI := hPI.put (e := .inr (3, [.ref s1_1, .ref s2_1, .ref s3_1, .ref s4_1, .ref s5_1, .ref s6_1, .ref s7_1, .int pa_111, .int lm_111, .ref s8_1, .ref s9_1, .ref s10_1, .int z_308, .ref s11_1, .int nm_111, .ref s12_1, .ref s13_1, .ref s14_1, .int 1, .ref s15_1, .ref s16_1, .ref s17_1, .ref s18_1])) hg0 ⟨s1_1, s2_1, s3_1, s4_1, s5_1, s6_1, s7_1, pa_111, lm_111, s8_1, s9_1, s10_1, z_308, s11_1, nm_111, s12_1, s13_1, s14_1, 1, s15_1, s16_1, s17_1, s18_1, rfl, fs1_1, fs2_1, fs3_1, fs4_1, fs5_1, fs6_1, fs7_1, flm_111, fs8_1, fs9_1, fs10_1, rg_310, fs11_1, fnm_111, fs12_1, fs13_1, fs14_1, (Or.inl rfl), fs15_1, fs16_1, fs17_1, fs18_1⟩
                                have es_f_311 : va_up f_295 g0 (.inr (3, [.ref s1_1, .ref s2_1, .ref s3_1, .ref s4_1, .ref s5_1, .ref s6_1, .ref s7_1, .int pa_111, .int lm_111, .ref s8_1, .ref s9_1, .ref s10_1, .int z_308, .ref s11_1, .int nm_111, .ref s12_1, .ref s13_1, .ref s14_1, .int 1, .ref s15_1, .ref s16_1, .ref s17_1, .ref s18_1])) g0 = .inr (3, [.ref s1_1, .ref s2_1, .ref s3_1, .ref s4_1, .ref s5_1, .ref s6_1, .ref s7_1, .int pa_111, .int lm_111, .ref s8_1, .ref s9_1, .ref s10_1, .int z_308, .ref s11_1, .int nm_111, .ref s12_1, .ref s13_1, .ref s14_1, .int 1, .ref s15_1, .ref s16_1, .ref s17_1, .ref s18_1]) := va_up_self _ _ _
                                have eq_312 := (va_up_ne f_295 (.inr (3, [.ref s1_1, .ref s2_1, .ref s3_1, .ref s4_1, .ref s5_1, .ref s6_1, .ref s7_1, .int pa_111, .int lm_111, .ref s8_1, .ref s9_1, .ref s10_1, .int z_308, .ref s11_1, .int nm_111, .ref s12_1, .ref s13_1, .ref s14_1, .int 1, .ref s15_1, .ref s16_1, .ref s17_1, .ref s18_1])) (isr_ne fs1_1 hg0 (by decide))).trans eq_297
                                have eq_313 := (va_up_ne f_295 (.inr (3, [.ref s1_1, .ref s2_1, .ref s3_1, .ref s4_1, .ref s5_1, .ref s6_1, .ref s7_1, .int pa_111, .int lm_111, .ref s8_1, .ref s9_1, .ref s10_1, .int z_308, .ref s11_1, .int nm_111, .ref s12_1, .ref s13_1, .ref s14_1, .int 1, .ref s15_1, .ref s16_1, .ref s17_1, .ref s18_1])) (isr_ne fs2_1 hg0 (by decide))).trans eq_298
                                have eq_314 := (va_up_ne f_295 (.inr (3, [.ref s1_1, .ref s2_1, .ref s3_1, .ref s4_1, .ref s5_1, .ref s6_1, .ref s7_1, .int pa_111, .int lm_111, .ref s8_1, .ref s9_1, .ref s10_1, .int z_308, .ref s11_1, .int nm_111, .ref s12_1, .ref s13_1, .ref s14_1, .int 1, .ref s15_1, .ref s16_1, .ref s17_1, .ref s18_1])) (isr_ne fs3_1 hg0 (by decide))).trans eq_299
                                have eq_315 := (va_up_ne f_295 (.inr (3, [.ref s1_1, .ref s2_1, .ref s3_1, .ref s4_1, .ref s5_1, .ref s6_1, .ref s7_1, .int pa_111, .int lm_111, .ref s8_1, .ref s9_1, .ref s10_1, .int z_308, .ref s11_1, .int nm_111, .ref s12_1, .ref s13_1, .ref s14_1, .int 1, .ref s15_1, .ref s16_1, .ref s17_1, .ref s18_1])) (isr_ne fs4_1 hg0 (by decide))).trans eq_300
                                have eq_316 := (va_up_ne f_295 (.inr (3, [.ref s1_1, .ref s2_1, .ref s3_1, .ref s4_1, .ref s5_1, .ref s6_1, .ref s7_1, .int pa_111, .int lm_111, .ref s8_1, .ref s9_1, .ref s10_1, .int z_308, .ref s11_1, .int nm_111, .ref s12_1, .ref s13_1, .ref s14_1, .int 1, .ref s15_1, .ref s16_1, .ref s17_1, .ref s18_1])) (isr_ne fs5_1 hg0 (by decide))).trans eq_301
                                have eq_317 := (va_up_ne f_295 (.inr (3, [.ref s1_1, .ref s2_1, .ref s3_1, .ref s4_1, .ref s5_1, .ref s6_1, .ref s7_1, .int pa_111, .int lm_111, .ref s8_1, .ref s9_1, .ref s10_1, .int z_308, .ref s11_1, .int nm_111, .ref s12_1, .ref s13_1, .ref s14_1, .int 1, .ref s15_1, .ref s16_1, .ref s17_1, .ref s18_1])) (isr_ne fs8_1 hg0 (by decide))).trans eq_302
                                have eq_318 := (va_up_ne f_295 (.inr (3, [.ref s1_1, .ref s2_1, .ref s3_1, .ref s4_1, .ref s5_1, .ref s6_1, .ref s7_1, .int pa_111, .int lm_111, .ref s8_1, .ref s9_1, .ref s10_1, .int z_308, .ref s11_1, .int nm_111, .ref s12_1, .ref s13_1, .ref s14_1, .int 1, .ref s15_1, .ref s16_1, .ref s17_1, .ref s18_1])) (isr_ne fs9_1 hg0 (by decide))).trans eq_303
                                have eq_319 := (va_up_ne f_295 (.inr (3, [.ref s1_1, .ref s2_1, .ref s3_1, .ref s4_1, .ref s5_1, .ref s6_1, .ref s7_1, .int pa_111, .int lm_111, .ref s8_1, .ref s9_1, .ref s10_1, .int z_308, .ref s11_1, .int nm_111, .ref s12_1, .ref s13_1, .ref s14_1, .int 1, .ref s15_1, .ref s16_1, .ref s17_1, .ref s18_1])) (isr_ne fs10_1 hg0 (by decide))).trans eq_304
                                have eq_320 := (va_up_ne f_295 (.inr (3, [.ref s1_1, .ref s2_1, .ref s3_1, .ref s4_1, .ref s5_1, .ref s6_1, .ref s7_1, .int pa_111, .int lm_111, .ref s8_1, .ref s9_1, .ref s10_1, .int z_308, .ref s11_1, .int nm_111, .ref s12_1, .ref s13_1, .ref s14_1, .int 1, .ref s15_1, .ref s16_1, .ref s17_1, .ref s18_1])) (isr_ne fs11_1 hg0 (by decide))).trans es_f_295
                                have hfr := fr_up (S := (sK [10, 21, 22, 23, 24])) (e := .inr (3, [.ref s1_1, .ref s2_1, .ref s3_1, .ref s4_1, .ref s5_1, .ref s6_1, .ref s7_1, .int pa_111, .int lm_111, .ref s8_1, .ref s9_1, .ref s10_1, .int z_308, .ref s11_1, .int nm_111, .ref s12_1, .ref s13_1, .ref s14_1, .int 1, .ref s15_1, .ref s16_1, .ref s17_1, .ref s18_1])) hfr hg0 (by decide)
                                generalize hg_f_311 : va_up f_295 g0 (.inr (3, [.ref s1_1, .ref s2_1, .ref s3_1, .ref s4_1, .ref s5_1, .ref s6_1, .ref s7_1, .int pa_111, .int lm_111, .ref s8_1, .ref s9_1, .ref s10_1, .int z_308, .ref s11_1, .int nm_111, .ref s12_1, .ref s13_1, .ref s14_1, .int 1, .ref s15_1, .ref s16_1, .ref s17_1, .ref s18_1])) = f_311 at hP hD hPI es_f_311 eq_312 eq_313 eq_314 eq_315 eq_316 eq_317 eq_318 eq_319 eq_320 hfr
                                obtain ⟨i_321, ei_321⟩ : ∃ y : Int32, y = i4 + 1 := ⟨_, rfl⟩
                                refine lv_iinc (v := i_321) (lv' := [(4, .int i_321), (5, .int z_126), (3, .int z_102), (2, .int i2), (0, .ref g0), (1, .int o0)]) hx hb dX3_find_188 hl (k := 1) rfl (by rw [ei_321]; rfl) (by decide) rfl (fun ls hl => ?_)
                                have ki_321 := inc_toInt ei_321 (by omega)
                                refine lv_goto (tgt := 50) hx hb dX3_find_191 (by decide) ?_
                                exact ih_50 i_321 f_311 _ _ _  (by omega) (by omega) ⟨hfr, (by first | exact ⟨(show KQ2 f f_311 g0 from ⟨(by rw [es_f_311]; exact hk7), (by rw [es_f_311]; exact hk8)⟩), (by rw [(show cI (f_311 g0) 14 = nm_111 from by rw [es_f_311]; rfl)]; exact hn14), Or.inl ⟨(show cI (f_311 g0) 18 = 1 from by rw [es_f_311]; rfl), (by rw [sq_step (by omega) ki_321, r_lk_val (by omega) (hs_iff.mpr (by rw [← ez_118]; exact hp_120)) er_125 (by omega) hq_t_127, ad_new ((nbr_mem hq_132 (by omega)).mp (by omega))]; exact ⟨_, un_row hU fs11_1 eq_320, (by rw [(show cI (f_311 g0) 12 = z_308 from by rw [es_f_311]; rfl)]; rw [kz_308, List.length_append]; show _ = ((_ + 1 : Nat) : Int); omega), rf_push hfm2 hat2⟩)⟩⟩ | (exfalso; omega))⟩ hPI hP hD hS (lv_sub hl [0, 2, 3, 4, 5] rfl)
                              · have c_307 := mt Int32.le_iff_toInt_le.mpr c_307
                                refine lv_iconst (v := 1) hx hb dX3_find_179 (by decide) ?_
                                refine lv_goto (tgt := 184) hx hb dX3_find_180 (by decide) ?_
                                refine lv_iadd hx hb dX3_find_184 ?_
                                refine lv_topi (fun z_322 ez_322 => ?_)
                                have kz_322 := add_toInt ez_322 (by omega) (by omega)
                                obtain ⟨k_323, hk_323⟩ := va_plg hg0.1 eq_296
                                have hD9 := hD
                                have rg_324 : 0 ≤ Int32.toInt z_322 ∧ Int32.toInt z_322 ≤ 24 := by constructor <;> omega
                                refine va_put (D := (dC, dI)) (ci := 3) (v := .int z_322) (ty := .int) (C := RX3) (T := TX3) (N := 23) hx hb hts iX3_ tyX3 tyX3_ok nmX3 hown hK hP hD hS k_323 hk_323 rfl 12 (by decide) (hts (.fieldLink RX3 167 "FieldLeavesModel" "foundMany" "I") (by decide +kernel)) (fun _ h9 => h9) rfl (by decide +kernel) rfl rfl (Nat.le_of_ble_eq_true rfl) dX3_find_185 (fun H locs hP hD hS => ?_)
                                have hP : va_P (dC, dI) vwCl (va_pl L (va_up f_295 g0 (.inr (3, [.ref s1_1, .ref s2_1, .ref s3_1, .ref s4_1, .ref s5_1, .ref s6_1, .ref s7_1, .int pa_111, .int lm_111, .ref s8_1, .ref s9_1, .ref s10_1, .int z_322, .ref s11_1, .int nm_111, .ref s12_1, .ref s13_1, .ref s14_1, .int 1, .ref s15_1, .ref s16_1, .ref s17_1, .ref s18_1])))) H := by rw [← va_pls hD9 hg0.1 hk_323 _]; exact hP
                                have hD : va_D A (va_pl L (va_up f_295 g0 (.inr (3, [.ref s1_1, .ref s2_1, .ref s3_1, .ref s4_1, .ref s5_1, .ref s6_1, .ref s7_1, .int pa_111, .int lm_111, .ref s8_1, .ref s9_1, .ref s10_1, .int z_322, .ref s11_1, .int nm_111, .ref s12_1, .ref s13_1, .ref s14_1, .int 1, .ref s15_1, .ref s16_1, .ref s17_1, .ref s18_1])))) := by rw [← va_pls hD9 hg0.1 hk_323 _]; exact hD
                                have hPI := hPI.put (e := .inr (3, [.ref s1_1, .ref s2_1, .ref s3_1, .ref s4_1, .ref s5_1, .ref s6_1, .ref s7_1, .int pa_111, .int lm_111, .ref s8_1, .ref s9_1, .ref s10_1, .int z_322, .ref s11_1, .int nm_111, .ref s12_1, .ref s13_1, .ref s14_1, .int 1, .ref s15_1, .ref s16_1, .ref s17_1, .ref s18_1])) hg0 ⟨s1_1, s2_1, s3_1, s4_1, s5_1, s6_1, s7_1, pa_111, lm_111, s8_1, s9_1, s10_1, z_322, s11_1, nm_111, s12_1, s13_1, s14_1, 1, s15_1, s16_1, s17_1, s18_1, rfl, fs1_1, fs2_1, fs3_1, fs4_1, fs5_1, fs6_1, fs7_1, flm_111, fs8_1, fs9_1, fs10_1, rg_324, fs11_1, fnm_111, fs12_1, fs13_1, fs14_1, (Or.inl rfl), fs15_1, fs16_1, fs17_1, fs18_1⟩
                                have es_f_325 : va_up f_295 g0 (.inr (3, [.ref s1_1, .ref s2_1, .ref s3_1, .ref s4_1, .ref s5_1, .ref s6_1, .ref s7_1, .int pa_111, .int lm_111, .ref s8_1, .ref s9_1, .ref s10_1, .int z_322, .ref s11_1, .int nm_111, .ref s12_1, .ref s13_1, .ref s14_1, .int 1, .ref s15_1, .ref s16_1, .ref s17_1, .ref s18_1])) g0 = .inr (3, [.ref s1_1, .ref s2_1, .ref s3_1, .ref s4_1, .ref s5_1, .ref s6_1, .ref s7_1, .int pa_111, .int lm_111, .ref s8_1, .ref s9_1, .ref s10_1, .int z_322, .ref s11_1, .int nm_111, .ref s12_1, .ref s13_1, .ref s14_1, .int 1, .ref s15_1, .ref s16_1, .ref s17_1, .ref s18_1]) := va_up_self _ _ _
                                have eq_326 := (va_up_ne f_295 (.inr (3, [.ref s1_1, .ref s2_1, .ref s3_1, .ref s4_1, .ref s5_1, .ref s6_1, .ref s7_1, .int pa_111, .int lm_111, .ref s8_1, .ref s9_1, .ref s10_1, .int z_322, .ref s11_1, .int nm_111, .ref s12_1, .ref s13_1, .ref s14_1, .int 1, .ref s15_1, .ref s16_1, .ref s17_1, .ref s18_1])) (isr_ne fs1_1 hg0 (by decide))).trans eq_297
                                have eq_327 := (va_up_ne f_295 (.inr (3, [.ref s1_1, .ref s2_1, .ref s3_1, .ref s4_1, .ref s5_1, .ref s6_1, .ref s7_1, .int pa_111, .int lm_111, .ref s8_1, .ref s9_1, .ref s10_1, .int z_322, .ref s11_1, .int nm_111, .ref s12_1, .ref s13_1, .ref s14_1, .int 1, .ref s15_1, .ref s16_1, .ref s17_1, .ref s18_1])) (isr_ne fs2_1 hg0 (by decide))).trans eq_298
                                have eq_328 := (va_up_ne f_295 (.inr (3, [.ref s1_1, .ref s2_1, .ref s3_1, .ref s4_1, .ref s5_1, .ref s6_1, .ref s7_1, .int pa_111, .int lm_111, .ref s8_1, .ref s9_1, .ref s10_1, .int z_322, .ref s11_1, .int nm_111, .ref s12_1, .ref s13_1, .ref s14_1, .int 1, .ref s15_1, .ref s16_1, .ref s17_1, .ref s18_1])) (isr_ne fs3_1 hg0 (by decide))).trans eq_299
                                have eq_329 := (va_up_ne f_295 (.inr (3, [.ref s1_1, .ref s2_1, .ref s3_1, .ref s4_1, .ref s5_1, .ref s6_1, .ref s7_1, .int pa_111, .int lm_111, .ref s8_1, .ref s9_1, .ref s10_1, .int z_322, .ref s11_1, .int nm_111, .ref s12_1, .ref s13_1, .ref s14_1, .int 1, .ref s15_1, .ref s16_1, .ref s17_1, .ref s18_1])) (isr_ne fs4_1 hg0 (by decide))).trans eq_300
                                have eq_330 := (va_up_ne f_295 (.inr (3, [.ref s1_1, .ref s2_1, .ref s3_1, .ref s4_1, .ref s5_1, .ref s6_1, .ref s7_1, .int pa_111, .int lm_111, .ref s8_1, .ref s9_1, .ref s10_1, .int z_322, .ref s11_1, .int nm_111, .ref s12_1, .ref s13_1, .ref s14_1, .int 1, .ref s15_1, .ref s16_1, .ref s17_1, .ref s18_1])) (isr_ne fs5_1 hg0 (by decide))).trans eq_301
                                have eq_331 := (va_up_ne f_295 (.inr (3, [.ref s1_1, .ref s2_1, .ref s3_1, .ref s4_1, .ref s5_1, .ref s6_1, .ref s7_1, .int pa_111, .int lm_111, .ref s8_1, .ref s9_1, .ref s10_1, .int z_322, .ref s11_1, .int nm_111, .ref s12_1, .ref s13_1, .ref s14_1, .int 1, .ref s15_1, .ref s16_1, .ref s17_1, .ref s18_1])) (isr_ne fs8_1 hg0 (by decide))).trans eq_302
                                have eq_332 := (va_up_ne f_295 (.inr (3, [.ref s1_1, .ref s2_1, .ref s3_1, .ref s4_1, .ref s5_1, .ref s6_1, .ref s7_1, .int pa_111, .int lm_111, .ref s8_1, .ref s9_1, .ref s10_1, .int z_322, .ref s11_1, .int nm_111, .ref s12_1, .ref s13_1, .ref s14_1, .int 1, .ref s15_1, .ref s16_1, .ref s17_1, .ref s18_1])) (isr_ne fs9_1 hg0 (by decide))).trans eq_303
                                have eq_333 := (va_up_ne f_295 (.inr (3, [.ref s1_1, .ref s2_1, .ref s3_1, .ref s4_1, .ref s5_1, .ref s6_1, .ref s7_1, .int pa_111, .int lm_111, .ref s8_1, .ref s9_1, .ref s10_1, .int z_322, .ref s11_1, .int nm_111, .ref s12_1, .ref s13_1, .ref s14_1, .int 1, .ref s15_1, .ref s16_1, .ref s17_1, .ref s18_1])) (isr_ne fs10_1 hg0 (by decide))).trans eq_304
                                have eq_334 := (va_up_ne f_295 (.inr (3, [.ref s1_1, .ref s2_1, .ref s3_1, .ref s4_1, .ref s5_1, .ref s6_1, .ref s7_1, .int pa_111, .int lm_111, .ref s8_1, .ref s9_1, .ref s10_1, .int z_322, .ref s11_1, .int nm_111, .ref s12_1, .ref s13_1, .ref s14_1, .int 1, .ref s15_1, .ref s16_1, .ref s17_1, .ref s18_1])) (isr_ne fs11_1 hg0 (by decide))).trans es_f_295
                                have hfr := fr_up (S := (sK [10, 21, 22, 23, 24])) (e := .inr (3, [.ref s1_1, .ref s2_1, .ref s3_1, .ref s4_1, .ref s5_1, .ref s6_1, .ref s7_1, .int pa_111, .int lm_111, .ref s8_1, .ref s9_1, .ref s10_1, .int z_322, .ref s11_1, .int nm_111, .ref s12_1, .ref s13_1, .ref s14_1, .int 1, .ref s15_1, .ref s16_1, .ref s17_1, .ref s18_1])) hfr hg0 (by decide)
                                generalize hg_f_325 : va_up f_295 g0 (.inr (3, [.ref s1_1, .ref s2_1, .ref s3_1, .ref s4_1, .ref s5_1, .ref s6_1, .ref s7_1, .int pa_111, .int lm_111, .ref s8_1, .ref s9_1, .ref s10_1, .int z_322, .ref s11_1, .int nm_111, .ref s12_1, .ref s13_1, .ref s14_1, .int 1, .ref s15_1, .ref s16_1, .ref s17_1, .ref s18_1])) = f_325 at hP hD hPI es_f_325 eq_326 eq_327 eq_328 eq_329 eq_330 eq_331 eq_332 eq_333 eq_334 hfr
                                obtain ⟨i_335, ei_335⟩ : ∃ y : Int32, y = i4 + 1 := ⟨_, rfl⟩
                                refine lv_iinc (v := i_335) (lv' := [(4, .int i_335), (5, .int z_126), (3, .int z_102), (2, .int i2), (0, .ref g0), (1, .int o0)]) hx hb dX3_find_188 hl (k := 1) rfl (by rw [ei_335]; rfl) (by decide) rfl (fun ls hl => ?_)
                                have ki_335 := inc_toInt ei_335 (by omega)
                                refine lv_goto (tgt := 50) hx hb dX3_find_191 (by decide) ?_
                                exact ih_50 i_335 f_325 _ _ _  (by omega) (by omega) ⟨hfr, (by first | exact ⟨(show KQ2 f f_325 g0 from ⟨(by rw [es_f_325]; exact hk7), (by rw [es_f_325]; exact hk8)⟩), (by rw [(show cI (f_325 g0) 14 = nm_111 from by rw [es_f_325]; rfl)]; exact hn14), Or.inl ⟨(show cI (f_325 g0) 18 = 1 from by rw [es_f_325]; rfl), (by rw [sq_step (by omega) ki_335, r_lk_val (by omega) (hs_iff.mpr (by rw [← ez_118]; exact hp_120)) er_125 (by omega) hq_t_127, ad_new ((nbr_mem hq_132 (by omega)).mp (by omega))]; exact ⟨_, un_row hU fs11_1 eq_334, (by rw [(show cI (f_325 g0) 12 = z_322 from by rw [es_f_325]; rfl)]; rw [kz_322, List.length_append]; show _ = ((_ + 1 : Nat) : Int); omega), rf_push hfm2 hat2⟩)⟩⟩ | (exfalso; omega))⟩ hPI hP hD hS (lv_sub hl [0, 2, 3, 4, 5] rfl)
                    · refine lv_if_eq (tgt := 95) hx hb dX3_find_76 (by decide) (fun _ => ?_) (fun c9 => absurd c9 (by decide))
                      refine lv_iconst (v := (-1)) hx hb dX3_find_95 (by decide) ?_
                      refine lv_istore (lv' := [(5, .int (-1)), (4, .int i4), (3, .int z_102), (2, .int i2), (0, .ref g0), (1, .int o0)]) hx hb dX3_find_96 hl (by decide) rfl (fun ls hl => ?_)
                      refine lv_iload hx hb dX3_find_98 (lv_at hl 0 rfl) ?_
                      refine lv_iconst (v := (-1)) hx hb dX3_find_100 (by decide) ?_
                      refine lv_icmp_eq (tgt := 188) hx hb dX3_find_101 (by decide) (fun _ => ?_) (fun c9 => absurd c9 (by decide))
                      obtain ⟨i_336, ei_336⟩ : ∃ y : Int32, y = i4 + 1 := ⟨_, rfl⟩
                      refine lv_iinc (v := i_336) (lv' := [(4, .int i_336), (5, .int (-1)), (3, .int z_102), (2, .int i2), (0, .ref g0), (1, .int o0)]) hx hb dX3_find_188 hl (k := 1) rfl (by rw [ei_336]; rfl) (by decide) rfl (fun ls hl => ?_)
                      have ki_336 := inc_toInt ei_336 (by omega)
                      refine lv_goto (tgt := 50) hx hb dX3_find_191 (by decide) ?_
                      exact ih_50 i_336 fl50 _ _ _  (by omega) (by omega) ⟨hfr, ⟨(show KQ2 f fl50 g0 from ⟨(by rw [e_111]; exact hk7), (by rw [e_111]; exact hk8)⟩), (by rw [(show cI (fl50 g0) 14 = nm_111 from by rw [e_111]; rfl)]; exact hn14), Or.inl ⟨(show cI (fl50 g0) 18 = 1 from by rw [e_111]; rfl), (by rw [sq_step (by omega) ki_336, r_lk_noh (mt hs_iff.mp (by rw [← ez_118]; exact hp_120)), ad_none]; exact ⟨gG, hr21, (by rw [(show cI (fl50 g0) 12 = fm_111 from by rw [e_111]; rfl)]; exact hfm2), hat2⟩)⟩⟩⟩ hPI hP hD hS (lv_sub hl [0, 2, 3, 4, 5] rfl)
                  · refine lv_if_eq (tgt := 95) hx hb dX3_find_62 (by decide) (fun _ => ?_) (fun c9 => absurd c9 (by decide))
                    refine lv_iconst (v := (-1)) hx hb dX3_find_95 (by decide) ?_
                    refine lv_istore (lv' := [(5, .int (-1)), (4, .int i4), (3, .int z_102), (2, .int i2), (0, .ref g0), (1, .int o0)]) hx hb dX3_find_96 hl (by decide) rfl (fun ls hl => ?_)
                    refine lv_iload hx hb dX3_find_98 (lv_at hl 0 rfl) ?_
                    refine lv_iconst (v := (-1)) hx hb dX3_find_100 (by decide) ?_
                    refine lv_icmp_eq (tgt := 188) hx hb dX3_find_101 (by decide) (fun _ => ?_) (fun c9 => absurd c9 (by decide))
                    obtain ⟨i_337, ei_337⟩ : ∃ y : Int32, y = i4 + 1 := ⟨_, rfl⟩
                    refine lv_iinc (v := i_337) (lv' := [(4, .int i_337), (5, .int (-1)), (3, .int z_102), (2, .int i2), (0, .ref g0), (1, .int o0)]) hx hb dX3_find_188 hl (k := 1) rfl (by rw [ei_337]; rfl) (by decide) rfl (fun ls hl => ?_)
                    have ki_337 := inc_toInt ei_337 (by omega)
                    refine lv_goto (tgt := 50) hx hb dX3_find_191 (by decide) ?_
                    exact ih_50 i_337 fl50 _ _ _  (by omega) (by omega) ⟨hfr, ⟨(show KQ2 f fl50 g0 from ⟨(by rw [e_111]; exact hk7), (by rw [e_111]; exact hk8)⟩), (by rw [(show cI (fl50 g0) 14 = nm_111 from by rw [e_111]; rfl)]; exact hn14), Or.inl ⟨(show cI (fl50 g0) 18 = 1 from by rw [e_111]; rfl), (by rw [sq_step (by omega) ki_337, r_lk_not (by omega), ad_none]; exact ⟨gG, hr21, (by rw [(show cI (fl50 g0) 12 = fm_111 from by rw [e_111]; rfl)]; exact hfm2), hat2⟩)⟩⟩⟩ hPI hP hD hS (lv_sub hl [0, 2, 3, 4, 5] rfl)
              · subst h18
                have hn14 : nm_111.toInt = 0 := by rw [← (show cI (fl50 g0) 14 = nm_111 from by rw [e_111]; rfl)]; exact h14
                refine lv_iload hx hb dX3_find_50 (lv_at hl 0 rfl) ?_
                refine lv_bipush (v := 16) hx hb dX3_find_52 (by decide) ?_
                refine lv_icmp_ge (tgt := 194) hx hb dX3_find_54 (by decide) (fun c_338 => ?_) (fun c_338 => ?_)
                · have c_338 := Int32.le_iff_toInt_le.mp c_338
                  obtain ⟨i_339, ei_339⟩ : ∃ y : Int32, y = i2 + 1 := ⟨_, rfl⟩
                  refine lv_iinc (v := i_339) (lv' := [(2, .int i_339), (4, .int i4), (3, .int z_102), (0, .ref g0), (1, .int o0)]) hx hb dX3_find_194 hl (k := 2) rfl (by rw [ei_339]; rfl) (by decide) rfl (fun ls hl => ?_)
                  have ki_339 := inc_toInt ei_339 (by omega)
                  refine lv_goto (tgt := 24) hx hb dX3_find_197 (by decide) ?_
                  exact ih_24 i_339 fl50 _ _ _  (by omega) (by omega) ⟨(FR.tr hfrE50 hfr (fun _ h => h)), ⟨(show KQ2 f fl50 g0 from ⟨(by rw [e_111]; exact hk7), (by rw [e_111]; exact hk8)⟩), (by rw [(show cI (fl50 g0) 14 = nm_111 from by rw [e_111]; rfl)]; exact hn14), Or.inr ⟨(show cI (fl50 g0) 18 = 0 from by rw [e_111]; rfl), hfd.symm.trans (fd_over1 (by omega) (by omega) (fs_at hF (by omega) (by omega) (show (fun i => some (Int32.toNatClampNeg (gF i))) (Int32.toNatClampNeg i2) = some (Int32.toNatClampNeg z_102) from by rw [ez_102])) (by rw [← sq_8, ← show (i4.toInt - 8).toNat = 8 by omega]; omega))⟩⟩⟩ hPI hP hD hS (lv_sub hl [0, 3, 4] rfl)
                · have c_338 := mt Int32.le_iff_toInt_le.mpr c_338
                  refine lv_iload hx hb dX3_find_57 (lv_at hl 0 rfl) ?_
                  refine va_calli (va_runS (As := [.int i4]) (rest := []) ⟨hx, hb, hml, hown, hts⟩ (c_X3_isLink l dC dI TT H.size i4) (va_cwS 1 hts gX3_find_X3_isLink rfl rfl rfl (by decide +kernel) ⟨Nat.le_of_ble_eq_true rfl, Nat.le_of_ble_eq_true rfl⟩) (pr_S (ws := []) (wA := []) (tys := []) vp_nil (hK.sub [] rfl) vd_nil hst hS (ro_free hS hA)) rfl rfl hl.1 rfl (lv_room (Nat.le_of_ble_eq_true rfl)) dX3_find_59 ⟨Nat.le_of_ble_eq_true rfl, Nat.le_of_ble_eq_true rfl⟩) hS (fun q _ h => (ro_free hS hA) q h) (ro_free hS hA) (fun r_340 u t H1 locs ht hvm hw hB hz1 hk1 hS => ?_)
                  have hP := ro_keep hP hk1
                  generalize H1 = H at hP hS ⊢
                  rcases hw with ⟨rfl, hp_341⟩ | ⟨rfl, hp_341⟩
                  · refine lv_if_eq (tgt := 95) hx hb dX3_find_62 (by decide) (fun c9 => absurd c9 (by decide)) (fun _ => ?_)
                    refine lv_aload_n hx hb dX3_find_65 rfl (lv_at hl 3 rfl) ?_
                    obtain ⟨k_342, hk_342⟩ := va_plg hg0.1 e_111
                    refine va_get (D := (dC, dI)) (ci := 3) (v := .ref s2_1) (C := RX3) (T := TX3) (N := 23) hx hb hts iX3_ hown hK hP k_342 hk_342 rfl 1 (by decide) (hts (.fieldLink RX3 13 "FieldLeavesModel" "classOf" "[I") (by decide +kernel)) (fun _ h9 => h9) rfl dX3_find_66 ?_
                    refine lv_iload_n hx hb dX3_find_69 rfl (lv_at hl 1 rfl) ?_
                    obtain ⟨k_343, hk_343⟩ := va_plg fs2_1.1 eq_104
                    have h_343 : vp_in z_102 6400 := (vp_in_iff.mpr (by constructor <;> omega))
                    refine va_iald hx hb hK hP k_343 0 hk_343 rfl h_343 dX3_find_70 ?_
                    refine lv_topi (fun z_343 ez_343 => ?_)
                    have hdez_343 := congrArg Int32.toInt ez_343
                    refine lv_iload hx hb dX3_find_71 (lv_at hl 0 rfl) ?_
                    refine va_calli (va_runS (As := [.int z_343, .int i4]) (rest := []) ⟨hx, hb, hml, hown, hts⟩ (q_X3_has l dC dI TT H.size z_343 i4) (va_cwS 2 hts gX3_find_X3_has rfl rfl rfl (by decide +kernel) ⟨Nat.le_of_ble_eq_true rfl, Nat.le_of_ble_eq_true rfl⟩) (pr_S (ws := []) (wA := []) (tys := []) vp_nil (hK.sub [] rfl) vd_nil hst hS (ro_free hS hA)) rfl rfl hl.1 rfl (lv_room (Nat.le_of_ble_eq_true rfl)) dX3_find_73 ⟨Nat.le_of_ble_eq_true rfl, Nat.le_of_ble_eq_true rfl⟩) hS (fun q _ h => (ro_free hS hA) q h) (ro_free hS hA) (fun r_344 u t H1 locs ht hvm hw hB hz1 hk1 hS => ?_)
                    have hP := ro_keep hP hk1
                    generalize H1 = H at hP hS ⊢
                    rcases hw with ⟨rfl, hp_345⟩ | ⟨rfl, hp_345⟩
                    · refine lv_if_eq (tgt := 95) hx hb dX3_find_76 (by decide) (fun c9 => absurd c9 (by decide)) (fun _ => ?_)
                      refine lv_aload_n hx hb dX3_find_79 rfl (lv_at hl 3 rfl) ?_
                      obtain ⟨k_346, hk_346⟩ := va_plg hg0.1 e_111
                      refine va_get (D := (dC, dI)) (ci := 3) (v := .ref s3_1) (C := RX3) (T := TX3) (N := 23) hx hb hts iX3_ hown hK hP k_346 hk_346 rfl 2 (by decide) (hts (.fieldLink RX3 17 "FieldLeavesModel" "field" "[J") (by decide +kernel)) (fun _ h9 => h9) rfl dX3_find_80 ?_
                      refine lv_bipush (v := 17) hx hb dX3_find_83 (by decide) ?_
                      refine lv_iload_n hx hb dX3_find_85 rfl (lv_at hl 1 rfl) ?_
                      refine lv_imul hx hb dX3_find_86 ?_
                      refine lv_topi (fun z_347 ez_347 => ?_)
                      have kz_347 := mul17 ez_347 (by omega) (by omega)
                      refine lv_iload hx hb dX3_find_87 (lv_at hl 0 rfl) ?_
                      refine lv_iadd hx hb dX3_find_89 ?_
                      refine lv_topi (fun z_348 ez_348 => ?_)
                      have kz_348 := add_toInt ez_348 (by omega) (by omega)
                      obtain ⟨k_349, hk_349⟩ := va_plg fs3_1.1 eq_105
                      have h_349 : vp_in z_348 108800 := (vp_in_iff.mpr (by constructor <;> omega))
                      refine va_lald hx hb hK hP k_349 1 hk_349 rfl h_349 dX3_find_90 ?_
                      refine lv_topl (fun z_349 ez_349 => ?_)
                      have fz_349 := rgF.at fg13 (o := z_102) (f := i4) (w := z_348) (by constructor <;> omega) (by omega) (by omega)
                      rw [← ez_349] at fz_349
                      have er_350 := ez_349
                      rw [idx_clamp (o := z_102) (f := i4) (w := z_348) (by omega) (by omega) (by omega)] at er_350
                      refine lv_l2i hx hb dX3_find_91 rfl ?_
                      refine lv_topi (fun z_351 ez_351 => ?_)
                      have kz_351 := l2i_sm ez_351 (by omega) (by omega)
                      have hq_t_352 : z_349.toInt.toNat = Int32.toNatClampNeg z_351 := by show _ = z_351.toInt.toNat; rw [kz_351]
                      refine lv_goto (tgt := 96) hx hb dX3_find_92 (by decide) ?_
                      refine lv_istore (lv' := [(5, .int z_351), (4, .int i4), (3, .int z_102), (2, .int i2), (0, .ref g0), (1, .int o0)]) hx hb dX3_find_96 hl (by decide) rfl (fun ls hl => ?_)
                      refine lv_iload hx hb dX3_find_98 (lv_at hl 0 rfl) ?_
                      refine lv_iconst (v := (-1)) hx hb dX3_find_100 (by decide) ?_
                      refine lv_icmp_eq (tgt := 188) hx hb dX3_find_101 (by decide) (fun c_353 => ?_) (fun c_353 => ?_)
                      · have c_353 := congrArg Int32.toInt c_353
                        obtain ⟨i_354, ei_354⟩ : ∃ y : Int32, y = i4 + 1 := ⟨_, rfl⟩
                        refine lv_iinc (v := i_354) (lv' := [(4, .int i_354), (5, .int z_351), (3, .int z_102), (2, .int i2), (0, .ref g0), (1, .int o0)]) hx hb dX3_find_188 hl (k := 1) rfl (by rw [ei_354]; rfl) (by decide) rfl (fun ls hl => ?_)
                        have ki_354 := inc_toInt ei_354 (by omega)
                        refine lv_goto (tgt := 50) hx hb dX3_find_191 (by decide) ?_
                        exact ih_50 i_354 fl50 _ _ _  (by omega) (by omega) ⟨hfr, ⟨(show KQ2 f fl50 g0 from ⟨(by rw [e_111]; exact hk7), (by rw [e_111]; exact hk8)⟩), (by rw [(show cI (fl50 g0) 14 = nm_111 from by rw [e_111]; rfl)]; exact hn14), Or.inr ⟨(show cI (fl50 g0) 18 = 0 from by rw [e_111]; rfl), (by rw [sq_step (by omega) ki_354]; exact Nat.lt_of_lt_of_le hov (ad_len _ _))⟩⟩⟩ hPI hP hD hS (lv_sub hl [0, 2, 3, 4, 5] rfl)
                      · have c_353 := mt Int32.toInt_inj.mp c_353
                        refine lv_aload_n hx hb dX3_find_104 rfl (lv_at hl 4 rfl) ?_
                        refine lv_iload hx hb dX3_find_105 (lv_at hl 0 rfl) ?_
                        obtain ⟨k_355, hk_355⟩ := va_plg hg0.1 e_111
                        refine va_calli (va_runV (b := g0) (As := [.int z_351]) (rest := []) ⟨hx, hb, hml, hown, hts⟩ (q_X3_numberOf l dC dI TT H.size kI kJ kZ K L fl50 hPI g0 hg0 z_351) (cwV 1 hts gX3_find_X3_numberOf rfl rfl rfl (by decide +kernel) ⟨Nat.le_of_ble_eq_true rfl, Nat.le_of_ble_eq_true rfl⟩) ⟨pr_blind, va_recv hK hP (ci := 3) rfl hk_355, (pr_S (ws := va_pl L fl50) (wA := []) (tys := [(kI, .int), (kJ, .long), (kZ, .boolean)]) hP hK vd_nil hst hS (ro_free hS hA)).2⟩ rfl rfl hl.1 rfl (lv_room (Nat.le_of_ble_eq_true rfl)) dX3_find_107 ⟨Nat.le_of_ble_eq_true rfl, Nat.le_of_ble_eq_true rfl⟩) hS (fun q _ h => (ro_free hS hA) q h) (ro_free hS hA) (fun r_356 u t H1 locs ht hvm hw hB hz1 hk1 hS => ?_)
                        have hP := ro_keep hP hk1
                        generalize H1 = H at hP hS ⊢
                        refine lv_bipush (v := (-4)) hx hb dX3_find_110 (by decide) ?_
                        refine lv_icmp_ne (tgt := 188) hx hb dX3_find_112 (by decide) (fun c_357 => ?_) (fun c_357 => ?_)
                        · have c_357 := mt Int32.toInt_inj.mp c_357
                          obtain ⟨i_358, ei_358⟩ : ∃ y : Int32, y = i4 + 1 := ⟨_, rfl⟩
                          refine lv_iinc (v := i_358) (lv' := [(4, .int i_358), (5, .int z_351), (3, .int z_102), (2, .int i2), (0, .ref g0), (1, .int o0)]) hx hb dX3_find_188 hl (k := 1) rfl (by rw [ei_358]; rfl) (by decide) rfl (fun ls hl => ?_)
                          have ki_358 := inc_toInt ei_358 (by omega)
                          refine lv_goto (tgt := 50) hx hb dX3_find_191 (by decide) ?_
                          exact ih_50 i_358 fl50 _ _ _  (by omega) (by omega) ⟨hfr, ⟨(show KQ2 f fl50 g0 from ⟨(by rw [e_111]; exact hk7), (by rw [e_111]; exact hk8)⟩), (by rw [(show cI (fl50 g0) 14 = nm_111 from by rw [e_111]; rfl)]; exact hn14), Or.inr ⟨(show cI (fl50 g0) 18 = 0 from by rw [e_111]; rfl), (by rw [sq_step (by omega) ki_358]; exact Nat.lt_of_lt_of_le hov (ad_len _ _))⟩⟩⟩ hPI hP hD hS (lv_sub hl [0, 2, 3, 4, 5] rfl)
                        · have c_357 := congrArg Int32.toInt c_357
                          refine lv_aload_n hx hb dX3_find_115 rfl (lv_at hl 4 rfl) ?_
                          refine lv_aload_n hx hb dX3_find_116 rfl (lv_at hl 4 rfl) ?_
                          obtain ⟨k_359, hk_359⟩ := va_plg hg0.1 e_111
                          refine va_get (D := (dC, dI)) (ci := 3) (v := .int 0) (C := RX3) (T := TX3) (N := 23) hx hb hts iX3_ hown hK hP k_359 hk_359 rfl 18 (by decide) (hts (.fieldLink RX3 163 "FieldLeavesModel" "isRoom" "Z") (by decide +kernel)) (fun _ h9 => h9) rfl dX3_find_117 ?_
                          refine lv_if_eq (tgt := 136) hx hb dX3_find_120 (by decide) (fun _ => ?_) (fun c9 => absurd c9 (by decide))
                          refine lv_iconst (v := 0) hx hb dX3_find_136 (by decide) ?_
                          obtain ⟨k_360, hk_360⟩ := va_plg hg0.1 e_111
                          have hD9 := hD
                          refine va_put (D := (dC, dI)) (ci := 3) (v := .int 0) (ty := .boolean) (C := RX3) (T := TX3) (N := 23) hx hb hts iX3_ tyX3 tyX3_ok nmX3 hown hK hP hD hS k_360 hk_360 rfl 18 (by decide) (hts (.fieldLink RX3 163 "FieldLeavesModel" "isRoom" "Z") (by decide +kernel)) (fun _ h9 => h9) rfl (by decide +kernel) rfl rfl (Nat.le_of_ble_eq_true rfl) dX3_find_137 (fun H locs hP hD hS => ?_)
                          have hP : va_P (dC, dI) vwCl (va_pl L (va_up fl50 g0 (.inr (3, [.ref s1_1, .ref s2_1, .ref s3_1, .ref s4_1, .ref s5_1, .ref s6_1, .ref s7_1, .int pa_111, .int lm_111, .ref s8_1, .ref s9_1, .ref s10_1, .int fm_111, .ref s11_1, .int nm_111, .ref s12_1, .ref s13_1, .ref s14_1, .int 0, .ref s15_1, .ref s16_1, .ref s17_1, .ref s18_1])))) H := by rw [← va_pls hD9 hg0.1 hk_360 _]; exact hP
                          have hD : va_D A (va_pl L (va_up fl50 g0 (.inr (3, [.ref s1_1, .ref s2_1, .ref s3_1, .ref s4_1, .ref s5_1, .ref s6_1, .ref s7_1, .int pa_111, .int lm_111, .ref s8_1, .ref s9_1, .ref s10_1, .int fm_111, .ref s11_1, .int nm_111, .ref s12_1, .ref s13_1, .ref s14_1, .int 0, .ref s15_1, .ref s16_1, .ref s17_1, .ref s18_1])))) := by rw [← va_pls hD9 hg0.1 hk_360 _]; exact hD
                          have hPI := hPI.put (e := .inr (3, [.ref s1_1, .ref s2_1, .ref s3_1, .ref s4_1, .ref s5_1, .ref s6_1, .ref s7_1, .int pa_111, .int lm_111, .ref s8_1, .ref s9_1, .ref s10_1, .int fm_111, .ref s11_1, .int nm_111, .ref s12_1, .ref s13_1, .ref s14_1, .int 0, .ref s15_1, .ref s16_1, .ref s17_1, .ref s18_1])) hg0 ⟨s1_1, s2_1, s3_1, s4_1, s5_1, s6_1, s7_1, pa_111, lm_111, s8_1, s9_1, s10_1, fm_111, s11_1, nm_111, s12_1, s13_1, s14_1, 0, s15_1, s16_1, s17_1, s18_1, rfl, fs1_1, fs2_1, fs3_1, fs4_1, fs5_1, fs6_1, fs7_1, flm_111, fs8_1, fs9_1, fs10_1, ffm_111, fs11_1, fnm_111, fs12_1, fs13_1, fs14_1, (Or.inr rfl), fs15_1, fs16_1, fs17_1, fs18_1⟩
                          have es_f_361 : va_up fl50 g0 (.inr (3, [.ref s1_1, .ref s2_1, .ref s3_1, .ref s4_1, .ref s5_1, .ref s6_1, .ref s7_1, .int pa_111, .int lm_111, .ref s8_1, .ref s9_1, .ref s10_1, .int fm_111, .ref s11_1, .int nm_111, .ref s12_1, .ref s13_1, .ref s14_1, .int 0, .ref s15_1, .ref s16_1, .ref s17_1, .ref s18_1])) g0 = .inr (3, [.ref s1_1, .ref s2_1, .ref s3_1, .ref s4_1, .ref s5_1, .ref s6_1, .ref s7_1, .int pa_111, .int lm_111, .ref s8_1, .ref s9_1, .ref s10_1, .int fm_111, .ref s11_1, .int nm_111, .ref s12_1, .ref s13_1, .ref s14_1, .int 0, .ref s15_1, .ref s16_1, .ref s17_1, .ref s18_1]) := va_up_self _ _ _
                          have eq_362 := (va_up_ne fl50 (.inr (3, [.ref s1_1, .ref s2_1, .ref s3_1, .ref s4_1, .ref s5_1, .ref s6_1, .ref s7_1, .int pa_111, .int lm_111, .ref s8_1, .ref s9_1, .ref s10_1, .int fm_111, .ref s11_1, .int nm_111, .ref s12_1, .ref s13_1, .ref s14_1, .int 0, .ref s15_1, .ref s16_1, .ref s17_1, .ref s18_1])) (isr_ne fs1_1 hg0 (by decide))).trans eq_103
                          have eq_363 := (va_up_ne fl50 (.inr (3, [.ref s1_1, .ref s2_1, .ref s3_1, .ref s4_1, .ref s5_1, .ref s6_1, .ref s7_1, .int pa_111, .int lm_111, .ref s8_1, .ref s9_1, .ref s10_1, .int fm_111, .ref s11_1, .int nm_111, .ref s12_1, .ref s13_1, .ref s14_1, .int 0, .ref s15_1, .ref s16_1, .ref s17_1, .ref s18_1])) (isr_ne fs2_1 hg0 (by decide))).trans eq_104
                          have eq_364 := (va_up_ne fl50 (.inr (3, [.ref s1_1, .ref s2_1, .ref s3_1, .ref s4_1, .ref s5_1, .ref s6_1, .ref s7_1, .int pa_111, .int lm_111, .ref s8_1, .ref s9_1, .ref s10_1, .int fm_111, .ref s11_1, .int nm_111, .ref s12_1, .ref s13_1, .ref s14_1, .int 0, .ref s15_1, .ref s16_1, .ref s17_1, .ref s18_1])) (isr_ne fs3_1 hg0 (by decide))).trans eq_105
                          have eq_365 := (va_up_ne fl50 (.inr (3, [.ref s1_1, .ref s2_1, .ref s3_1, .ref s4_1, .ref s5_1, .ref s6_1, .ref s7_1, .int pa_111, .int lm_111, .ref s8_1, .ref s9_1, .ref s10_1, .int fm_111, .ref s11_1, .int nm_111, .ref s12_1, .ref s13_1, .ref s14_1, .int 0, .ref s15_1, .ref s16_1, .ref s17_1, .ref s18_1])) (isr_ne fs4_1 hg0 (by decide))).trans eq_106
                          have eq_366 := (va_up_ne fl50 (.inr (3, [.ref s1_1, .ref s2_1, .ref s3_1, .ref s4_1, .ref s5_1, .ref s6_1, .ref s7_1, .int pa_111, .int lm_111, .ref s8_1, .ref s9_1, .ref s10_1, .int fm_111, .ref s11_1, .int nm_111, .ref s12_1, .ref s13_1, .ref s14_1, .int 0, .ref s15_1, .ref s16_1, .ref s17_1, .ref s18_1])) (isr_ne fs5_1 hg0 (by decide))).trans eq_107
                          have eq_367 := (va_up_ne fl50 (.inr (3, [.ref s1_1, .ref s2_1, .ref s3_1, .ref s4_1, .ref s5_1, .ref s6_1, .ref s7_1, .int pa_111, .int lm_111, .ref s8_1, .ref s9_1, .ref s10_1, .int fm_111, .ref s11_1, .int nm_111, .ref s12_1, .ref s13_1, .ref s14_1, .int 0, .ref s15_1, .ref s16_1, .ref s17_1, .ref s18_1])) (isr_ne fs8_1 hg0 (by decide))).trans eq_108
                          have eq_368 := (va_up_ne fl50 (.inr (3, [.ref s1_1, .ref s2_1, .ref s3_1, .ref s4_1, .ref s5_1, .ref s6_1, .ref s7_1, .int pa_111, .int lm_111, .ref s8_1, .ref s9_1, .ref s10_1, .int fm_111, .ref s11_1, .int nm_111, .ref s12_1, .ref s13_1, .ref s14_1, .int 0, .ref s15_1, .ref s16_1, .ref s17_1, .ref s18_1])) (isr_ne fs9_1 hg0 (by decide))).trans eq_109
                          have eq_369 := (va_up_ne fl50 (.inr (3, [.ref s1_1, .ref s2_1, .ref s3_1, .ref s4_1, .ref s5_1, .ref s6_1, .ref s7_1, .int pa_111, .int lm_111, .ref s8_1, .ref s9_1, .ref s10_1, .int fm_111, .ref s11_1, .int nm_111, .ref s12_1, .ref s13_1, .ref s14_1, .int 0, .ref s15_1, .ref s16_1, .ref s17_1, .ref s18_1])) (isr_ne fs10_1 hg0 (by decide))).trans eq_110
                          have hfr := fr_up (S := (sK [10, 21, 22, 23, 24])) (e := .inr (3, [.ref s1_1, .ref s2_1, .ref s3_1, .ref s4_1, .ref s5_1, .ref s6_1, .ref s7_1, .int pa_111, .int lm_111, .ref s8_1, .ref s9_1, .ref s10_1, .int fm_111, .ref s11_1, .int nm_111, .ref s12_1, .ref s13_1, .ref s14_1, .int 0, .ref s15_1, .ref s16_1, .ref s17_1, .ref s18_1])) hfr hg0 (by decide)
                          generalize hg_f_361 : va_up fl50 g0 (.inr (3, [.ref s1_1, .ref s2_1, .ref s3_1, .ref s4_1, .ref s5_1, .ref s6_1, .ref s7_1, .int pa_111, .int lm_111, .ref s8_1, .ref s9_1, .ref s10_1, .int fm_111, .ref s11_1, .int nm_111, .ref s12_1, .ref s13_1, .ref s14_1, .int 0, .ref s15_1, .ref s16_1, .ref s17_1, .ref s18_1])) = f_361 at hP hD hPI es_f_361 eq_362 eq_363 eq_364 eq_365 eq_366 eq_367 eq_368 eq_369 hfr
                          refine lv_aload_n hx hb dX3_find_140 rfl (lv_at hl 4 rfl) ?_
                          obtain ⟨k_370, hk_370⟩ := va_plg hg0.1 es_f_361
                          refine va_get (D := (dC, dI)) (ci := 3) (v := .ref s11_1) (C := RX3) (T := TX3) (N := 23) hx hb hts iX3_ hown hK hP k_370 hk_370 rfl 13 (by decide) (hts (.fieldLink RX3 44 "FieldLeavesModel" "found" "[I") (by decide +kernel)) (fun _ h9 => h9) rfl dX3_find_141 ?_
                          refine lv_aload_n hx hb dX3_find_144 rfl (lv_at hl 4 rfl) ?_
                          obtain ⟨k_371, hk_371⟩ := va_plg hg0.1 es_f_361
                          refine va_get (D := (dC, dI)) (ci := 3) (v := .int fm_111) (C := RX3) (T := TX3) (N := 23) hx hb hts iX3_ hown hK hP k_371 hk_371 rfl 12 (by decide) (hts (.fieldLink RX3 167 "FieldLeavesModel" "foundMany" "I") (by decide +kernel)) (fun _ h9 => h9) rfl dX3_find_145 ?_
                          refine lv_bipush (v := 24) hx hb dX3_find_148 (by decide) ?_
                          refine lv_icmp_ge (tgt := 160) hx hb dX3_find_150 (by decide) (fun c_372 => ?_) (fun c_372 => ?_)
                          · have c_372 := Int32.le_iff_toInt_le.mp c_372
                            refine lv_bipush (v := 24) hx hb dX3_find_160 (by decide) ?_
                            refine lv_iload hx hb dX3_find_162 (lv_at hl 0 rfl) ?_
                            obtain ⟨g_373, e_373, fg_373⟩ := hPI.a21 fs11_1
                            obtain ⟨k_373, hk_373⟩ := va_plg fs11_1.1 e_373
                            have h_373 : vp_in 24 25 := (vp_in_iff.mpr (by decide))
                            have fw_373 := updS (P := fun v => 0 ≤ v.toInt ∧ v.toInt < 6400) (k := Int32.toNatClampNeg 24) (v := z_351) fg_373 (by omega)
                            have hD9 := hD
                            refine va_iast hx hb hK hP hD hS k_373 0 hk_373 rfl h_373 dX3_find_164 (fun H locs hP hD hS => ?_)
                            have hP : va_P (dC, dI) vwCl (va_pl L (va_up f_361 s11_1 (.inl (kI, 25, .inl (upd g_373 (Int32.toNatClampNeg 24) z_351))))) H := by rw [← va_pls hD9 fs11_1.1 hk_373 _]; exact hP
                            have hD : va_D A (va_pl L (va_up f_361 s11_1 (.inl (kI, 25, .inl (upd g_373 (Int32.toNatClampNeg 24) z_351))))) := by rw [← va_pls hD9 fs11_1.1 hk_373 _]; exact hD
                            have hPI := hPI.put (e := .inl (kI, 25, .inl (upd g_373 (Int32.toNatClampNeg 24) z_351))) fs11_1 ⟨_, rfl, fw_373⟩
                            have es_f_374 : va_up f_361 s11_1 (.inl (kI, 25, .inl (upd g_373 (Int32.toNatClampNeg 24) z_351))) s11_1 = .inl (kI, 25, .inl (upd g_373 (Int32.toNatClampNeg 24) z_351)) := va_up_self _ _ _
                            have eq_375 := (va_up_ne f_361 (.inl (kI, 25, .inl (upd g_373 (Int32.toNatClampNeg 24) z_351))) (isr_ne hg0 fs11_1 (by decide))).trans es_f_361
                            have eq_376 := (va_up_ne f_361 (.inl (kI, 25, .inl (upd g_373 (Int32.toNatClampNeg 24) z_351))) (isr_ne fs1_1 fs11_1 (by decide))).trans eq_362
                            have eq_377 := (va_up_ne f_361 (.inl (kI, 25, .inl (upd g_373 (Int32.toNatClampNeg 24) z_351))) (isr_ne fs2_1 fs11_1 (by decide))).trans eq_363
                            have eq_378 := (va_up_ne f_361 (.inl (kI, 25, .inl (upd g_373 (Int32.toNatClampNeg 24) z_351))) (isr_ne fs3_1 fs11_1 (by decide))).trans eq_364
                            have eq_379 := (va_up_ne f_361 (.inl (kI, 25, .inl (upd g_373 (Int32.toNatClampNeg 24) z_351))) (isr_ne fs4_1 fs11_1 (by decide))).trans eq_365
                            have eq_380 := (va_up_ne f_361 (.inl (kI, 25, .inl (upd g_373 (Int32.toNatClampNeg 24) z_351))) (isr_ne fs5_1 fs11_1 (by decide))).trans eq_366
                            have eq_381 := (va_up_ne f_361 (.inl (kI, 25, .inl (upd g_373 (Int32.toNatClampNeg 24) z_351))) (isr_ne fs8_1 fs11_1 (by decide))).trans eq_367
                            have eq_382 := (va_up_ne f_361 (.inl (kI, 25, .inl (upd g_373 (Int32.toNatClampNeg 24) z_351))) (isr_ne fs9_1 fs11_1 (by decide))).trans eq_368
                            have eq_383 := (va_up_ne f_361 (.inl (kI, 25, .inl (upd g_373 (Int32.toNatClampNeg 24) z_351))) (isr_ne fs10_1 fs11_1 (by decide))).trans eq_369
                            have hfr := fr_up (S := (sK [10, 21, 22, 23, 24])) (e := .inl (kI, 25, .inl (upd g_373 (Int32.toNatClampNeg 24) z_351))) hfr fs11_1 (by decide)
                            generalize hg_f_374 : va_up f_361 s11_1 (.inl (kI, 25, .inl (upd g_373 (Int32.toNatClampNeg 24) z_351))) = f_374 at hP hD hPI es_f_374 eq_375 eq_376 eq_377 eq_378 eq_379 eq_380 eq_381 eq_382 eq_383 hfr
                            refine lv_aload_n hx hb dX3_find_165 rfl (lv_at hl 4 rfl) ?_
                            refine lv_dup hx hb dX3_find_166 rfl ?_
                            obtain ⟨k_384, hk_384⟩ := va_plg hg0.1 eq_375
                            refine va_get (D := (dC, dI)) (ci := 3) (v := .int fm_111) (C := RX3) (T := TX3) (N := 23) hx hb hts iX3_ hown hK hP k_384 hk_384 rfl 12 (by decide) (hts (.fieldLink RX3 167 "FieldLeavesModel" "foundMany" "I") (by decide +kernel)) (fun _ h9 => h9) rfl dX3_find_167 ?_
                            refine lv_aload_n hx hb dX3_find_170 rfl (lv_at hl 4 rfl) ?_
                            obtain ⟨k_385, hk_385⟩ := va_plg hg0.1 eq_375
                            refine va_get (D := (dC, dI)) (ci := 3) (v := .int fm_111) (C := RX3) (T := TX3) (N := 23) hx hb hts iX3_ hown hK hP k_385 hk_385 rfl 12 (by decide) (hts (.fieldLink RX3 167 "FieldLeavesModel" "foundMany" "I") (by decide +kernel)) (fun _ h9 => h9) rfl dX3_find_171 ?_
                            refine lv_bipush (v := 24) hx hb dX3_find_174 (by decide) ?_
                            refine lv_icmp_ge (tgt := 183) hx hb dX3_find_176 (by decide) (fun c_386 => ?_) (fun c_386 => ?_)
                            · have c_386 := Int32.le_iff_toInt_le.mp c_386
                              refine lv_iconst (v := 0) hx hb dX3_find_183 (by decide) ?_
                              refine lv_iadd hx hb dX3_find_184 ?_
                              refine lv_topi (fun z_387 ez_387 => ?_)
                              have kz_387 := add_toInt ez_387 (by omega) (by omega)
                              obtain ⟨k_388, hk_388⟩ := va_plg hg0.1 eq_375
                              have hD9 := hD
                              have rg_389 : 0 ≤ Int32.toInt z_387 ∧ Int32.toInt z_387 ≤ 24 := by constructor <;> omega
                              refine va_put (D := (dC, dI)) (ci := 3) (v := .int z_387) (ty := .int) (C := RX3) (T := TX3) (N := 23) hx hb hts iX3_ tyX3 tyX3_ok nmX3 hown hK hP hD hS k_388 hk_388 rfl 12 (by decide) (hts (.fieldLink RX3 167 "FieldLeavesModel" "foundMany" "I") (by decide +kernel)) (fun _ h9 => h9) rfl (by decide +kernel) rfl rfl (Nat.le_of_ble_eq_true rfl) dX3_find_185 (fun H locs hP hD hS => ?_)
                              have hP : va_P (dC, dI) vwCl (va_pl L (va_up f_374 g0 (.inr (3, [.ref s1_1, .ref s2_1, .ref s3_1, .ref s4_1, .ref s5_1, .ref s6_1, .ref s7_1, .int pa_111, .int lm_111, .ref s8_1, .ref s9_1, .ref s10_1, .int z_387, .ref s11_1, .int nm_111, .ref s12_1, .ref s13_1, .ref s14_1, .int 0, .ref s15_1, .ref s16_1, .ref s17_1, .ref s18_1])))) H := by rw [← va_pls hD9 hg0.1 hk_388 _]; exact hP
                              have hD : va_D A (va_pl L (va_up f_374 g0 (.inr (3, [.ref s1_1, .ref s2_1, .ref s3_1, .ref s4_1, .ref s5_1, .ref s6_1, .ref s7_1, .int pa_111, .int lm_111, .ref s8_1, .ref s9_1, .ref s10_1, .int z_387, .ref s11_1, .int nm_111, .ref s12_1, .ref s13_1, .ref s14_1, .int 0, .ref s15_1, .ref s16_1, .ref s17_1, .ref s18_1])))) := by rw [← va_pls hD9 hg0.1 hk_388 _]; exact hD
                              have hPI := hPI.put (e := .inr (3, [.ref s1_1, .ref s2_1, .ref s3_1, .ref s4_1, .ref s5_1, .ref s6_1, .ref s7_1, .int pa_111, .int lm_111, .ref s8_1, .ref s9_1, .ref s10_1, .int z_387, .ref s11_1, .int nm_111, .ref s12_1, .ref s13_1, .ref s14_1, .int 0, .ref s15_1, .ref s16_1, .ref s17_1, .ref s18_1])) hg0 ⟨s1_1, s2_1, s3_1, s4_1, s5_1, s6_1, s7_1, pa_111, lm_111, s8_1, s9_1, s10_1, z_387, s11_1, nm_111, s12_1, s13_1, s14_1, 0, s15_1, s16_1, s17_1, s18_1, rfl, fs1_1, fs2_1, fs3_1, fs4_1, fs5_1, fs6_1, fs7_1, flm_111, fs8_1, fs9_1, fs10_1, rg_389, fs11_1, fnm_111, fs12_1, fs13_1, fs14_1, (Or.inr rfl), fs15_1, fs16_1, fs17_1, fs18_1⟩
                              have es_f_390 : va_up f_374 g0 (.inr (3, [.ref s1_1, .ref s2_1, .ref s3_1, .ref s4_1, .ref s5_1, .ref s6_1, .ref s7_1, .int pa_111, .int lm_111, .ref s8_1, .ref s9_1, .ref s10_1, .int z_387, .ref s11_1, .int nm_111, .ref s12_1, .ref s13_1, .ref s14_1, .int 0, .ref s15_1, .ref s16_1, .ref s17_1, .ref s18_1])) g0 = .inr (3, [.ref s1_1, .ref s2_1, .ref s3_1, .ref s4_1, .ref s5_1, .ref s6_1, .ref s7_1, .int pa_111, .int lm_111, .ref s8_1, .ref s9_1, .ref s10_1, .int z_387, .ref s11_1, .int nm_111, .ref s12_1, .ref s13_1, .ref s14_1, .int 0, .ref s15_1, .ref s16_1, .ref s17_1, .ref s18_1]) := va_up_self _ _ _
                              have eq_391 := (va_up_ne f_374 (.inr (3, [.ref s1_1, .ref s2_1, .ref s3_1, .ref s4_1, .ref s5_1, .ref s6_1, .ref s7_1, .int pa_111, .int lm_111, .ref s8_1, .ref s9_1, .ref s10_1, .int z_387, .ref s11_1, .int nm_111, .ref s12_1, .ref s13_1, .ref s14_1, .int 0, .ref s15_1, .ref s16_1, .ref s17_1, .ref s18_1])) (isr_ne fs1_1 hg0 (by decide))).trans eq_376
                              have eq_392 := (va_up_ne f_374 (.inr (3, [.ref s1_1, .ref s2_1, .ref s3_1, .ref s4_1, .ref s5_1, .ref s6_1, .ref s7_1, .int pa_111, .int lm_111, .ref s8_1, .ref s9_1, .ref s10_1, .int z_387, .ref s11_1, .int nm_111, .ref s12_1, .ref s13_1, .ref s14_1, .int 0, .ref s15_1, .ref s16_1, .ref s17_1, .ref s18_1])) (isr_ne fs2_1 hg0 (by decide))).trans eq_377
                              have eq_393 := (va_up_ne f_374 (.inr (3, [.ref s1_1, .ref s2_1, .ref s3_1, .ref s4_1, .ref s5_1, .ref s6_1, .ref s7_1, .int pa_111, .int lm_111, .ref s8_1, .ref s9_1, .ref s10_1, .int z_387, .ref s11_1, .int nm_111, .ref s12_1, .ref s13_1, .ref s14_1, .int 0, .ref s15_1, .ref s16_1, .ref s17_1, .ref s18_1])) (isr_ne fs3_1 hg0 (by decide))).trans eq_378
                              have eq_394 := (va_up_ne f_374 (.inr (3, [.ref s1_1, .ref s2_1, .ref s3_1, .ref s4_1, .ref s5_1, .ref s6_1, .ref s7_1, .int pa_111, .int lm_111, .ref s8_1, .ref s9_1, .ref s10_1, .int z_387, .ref s11_1, .int nm_111, .ref s12_1, .ref s13_1, .ref s14_1, .int 0, .ref s15_1, .ref s16_1, .ref s17_1, .ref s18_1])) (isr_ne fs4_1 hg0 (by decide))).trans eq_379
                              have eq_395 := (va_up_ne f_374 (.inr (3, [.ref s1_1, .ref s2_1, .ref s3_1, .ref s4_1, .ref s5_1, .ref s6_1, .ref s7_1, .int pa_111, .int lm_111, .ref s8_1, .ref s9_1, .ref s10_1, .int z_387, .ref s11_1, .int nm_111, .ref s12_1, .ref s13_1, .ref s14_1, .int 0, .ref s15_1, .ref s16_1, .ref s17_1, .ref s18_1])) (isr_ne fs5_1 hg0 (by decide))).trans eq_380
                              have eq_396 := (va_up_ne f_374 (.inr (3, [.ref s1_1, .ref s2_1, .ref s3_1, .ref s4_1, .ref s5_1, .ref s6_1, .ref s7_1, .int pa_111, .int lm_111, .ref s8_1, .ref s9_1, .ref s10_1, .int z_387, .ref s11_1, .int nm_111, .ref s12_1, .ref s13_1, .ref s14_1, .int 0, .ref s15_1, .ref s16_1, .ref s17_1, .ref s18_1])) (isr_ne fs8_1 hg0 (by decide))).trans eq_381
                              have eq_397 := (va_up_ne f_374 (.inr (3, [.ref s1_1, .ref s2_1, .ref s3_1, .ref s4_1, .ref s5_1, .ref s6_1, .ref s7_1, .int pa_111, .int lm_111, .ref s8_1, .ref s9_1, .ref s10_1, .int z_387, .ref s11_1, .int nm_111, .ref s12_1, .ref s13_1, .ref s14_1, .int 0, .ref s15_1, .ref s16_1, .ref s17_1, .ref s18_1])) (isr_ne fs9_1 hg0 (by decide))).trans eq_382
                              have eq_398 := (va_up_ne f_374 (.inr (3, [.ref s1_1, .ref s2_1, .ref s3_1, .ref s4_1, .ref s5_1, .ref s6_1, .ref s7_1, .int pa_111, .int lm_111, .ref s8_1, .ref s9_1, .ref s10_1, .int z_387, .ref s11_1, .int nm_111, .ref s12_1, .ref s13_1, .ref s14_1, .int 0, .ref s15_1, .ref s16_1, .ref s17_1, .ref s18_1])) (isr_ne fs10_1 hg0 (by decide))).trans eq_383
                              have eq_399 := (va_up_ne f_374 (.inr (3, [.ref s1_1, .ref s2_1, .ref s3_1, .ref s4_1, .ref s5_1, .ref s6_1, .ref s7_1, .int pa_111, .int lm_111, .ref s8_1, .ref s9_1, .ref s10_1, .int z_387, .ref s11_1, .int nm_111, .ref s12_1, .ref s13_1, .ref s14_1, .int 0, .ref s15_1, .ref s16_1, .ref s17_1, .ref s18_1])) (isr_ne fs11_1 hg0 (by decide))).trans es_f_374
                              have hfr := fr_up (S := (sK [10, 21, 22, 23, 24])) (e := .inr (3, [.ref s1_1, .ref s2_1, .ref s3_1, .ref s4_1, .ref s5_1, .ref s6_1, .ref s7_1, .int pa_111, .int lm_111, .ref s8_1, .ref s9_1, .ref s10_1, .int z_387, .ref s11_1, .int nm_111, .ref s12_1, .ref s13_1, .ref s14_1, .int 0, .ref s15_1, .ref s16_1, .ref s17_1, .ref s18_1])) hfr hg0 (by decide)
                              generalize hg_f_390 : va_up f_374 g0 (.inr (3, [.ref s1_1, .ref s2_1, .ref s3_1, .ref s4_1, .ref s5_1, .ref s6_1, .ref s7_1, .int pa_111, .int lm_111, .ref s8_1, .ref s9_1, .ref s10_1, .int z_387, .ref s11_1, .int nm_111, .ref s12_1, .ref s13_1, .ref s14_1, .int 0, .ref s15_1, .ref s16_1, .ref s17_1, .ref s18_1])) = f_390 at hP hD hPI es_f_390 eq_391 eq_392 eq_393 eq_394 eq_395 eq_396 eq_397 eq_398 eq_399 hfr
                              obtain ⟨i_400, ei_400⟩ : ∃ y : Int32, y = i4 + 1 := ⟨_, rfl⟩
                              refine lv_iinc (v := i_400) (lv' := [(4, .int i_400), (5, .int z_351), (3, .int z_102), (2, .int i2), (0, .ref g0), (1, .int o0)]) hx hb dX3_find_188 hl (k := 1) rfl (by rw [ei_400]; rfl) (by decide) rfl (fun ls hl => ?_)
                              have ki_400 := inc_toInt ei_400 (by omega)
                              refine lv_goto (tgt := 50) hx hb dX3_find_191 (by decide) ?_
                              exact ih_50 i_400 f_390 _ _ _  (by omega) (by omega) ⟨hfr, ⟨(show KQ2 f f_390 g0 from ⟨(by rw [es_f_390]; exact hk7), (by rw [es_f_390]; exact hk8)⟩), (by rw [(show cI (f_390 g0) 14 = nm_111 from by rw [es_f_390]; rfl)]; exact hn14), Or.inr ⟨(show cI (f_390 g0) 18 = 0 from by rw [es_f_390]; rfl), (by rw [sq_step (by omega) ki_400]; exact Nat.lt_of_lt_of_le hov (ad_len _ _))⟩⟩⟩ hPI hP hD hS (lv_sub hl [0, 2, 3, 4, 5] rfl)
                            · have c_386 := mt Int32.le_iff_toInt_le.mpr c_386
                              refine lv_iconst (v := 1) hx hb dX3_find_179 (by decide) ?_
                              refine lv_goto (tgt := 184) hx hb dX3_find_180 (by decide) ?_
                              refine lv_iadd hx hb dX3_find_184 ?_
                              refine lv_topi (fun z_401 ez_401 => ?_)
                              have kz_401 := add_toInt ez_401 (by omega) (by omega)
                              obtain ⟨k_402, hk_402⟩ := va_plg hg0.1 eq_375
                              have hD9 := hD
                              have rg_403 : 0 ≤ Int32.toInt z_401 ∧ Int32.toInt z_401 ≤ 24 := by constructor <;> omega
                              refine va_put (D := (dC, dI)) (ci := 3) (v := .int z_401) (ty := .int) (C := RX3) (T := TX3) (N := 23) hx hb hts iX3_ tyX3 tyX3_ok nmX3 hown hK hP hD hS k_402 hk_402 rfl 12 (by decide) (hts (.fieldLink RX3 167 "FieldLeavesModel" "foundMany" "I") (by decide +kernel)) (fun _ h9 => h9) rfl (by decide +kernel) rfl rfl (Nat.le_of_ble_eq_true rfl) dX3_find_185 (fun H locs hP hD hS => ?_)
                              have hP : va_P (dC, dI) vwCl (va_pl L (va_up f_374 g0 (.inr (3, [.ref s1_1, .ref s2_1, .ref s3_1, .ref s4_1, .ref s5_1, .ref s6_1, .ref s7_1, .int pa_111, .int lm_111, .ref s8_1, .ref s9_1, .ref s10_1, .int z_401, .ref s11_1, .int nm_111, .ref s12_1, .ref s13_1, .ref s14_1, .int 0, .ref s15_1, .ref s16_1, .ref s17_1, .ref s18_1])))) H := by rw [← va_pls hD9 hg0.1 hk_402 _]; exact hP
                              have hD : va_D A (va_pl L (va_up f_374 g0 (.inr (3, [.ref s1_1, .ref s2_1, .ref s3_1, .ref s4_1, .ref s5_1, .ref s6_1, .ref s7_1, .int pa_111, .int lm_111, .ref s8_1, .ref s9_1, .ref s10_1, .int z_401, .ref s11_1, .int nm_111, .ref s12_1, .ref s13_1, .ref s14_1, .int 0, .ref s15_1, .ref s16_1, .ref s17_1, .ref s18_1])))) := by rw [← va_pls hD9 hg0.1 hk_402 _]; exact hD
                              have hPI := hPI.put (e := .inr (3, [.ref s1_1, .ref s2_1, .ref s3_1, .ref s4_1, .ref s5_1, .ref s6_1, .ref s7_1, .int pa_111, .int lm_111, .ref s8_1, .ref s9_1, .ref s10_1, .int z_401, .ref s11_1, .int nm_111, .ref s12_1, .ref s13_1, .ref s14_1, .int 0, .ref s15_1, .ref s16_1, .ref s17_1, .ref s18_1])) hg0 ⟨s1_1, s2_1, s3_1, s4_1, s5_1, s6_1, s7_1, pa_111, lm_111, s8_1, s9_1, s10_1, z_401, s11_1, nm_111, s12_1, s13_1, s14_1, 0, s15_1, s16_1, s17_1, s18_1, rfl, fs1_1, fs2_1, fs3_1, fs4_1, fs5_1, fs6_1, fs7_1, flm_111, fs8_1, fs9_1, fs10_1, rg_403, fs11_1, fnm_111, fs12_1, fs13_1, fs14_1, (Or.inr rfl), fs15_1, fs16_1, fs17_1, fs18_1⟩
                              have es_f_404 : va_up f_374 g0 (.inr (3, [.ref s1_1, .ref s2_1, .ref s3_1, .ref s4_1, .ref s5_1, .ref s6_1, .ref s7_1, .int pa_111, .int lm_111, .ref s8_1, .ref s9_1, .ref s10_1, .int z_401, .ref s11_1, .int nm_111, .ref s12_1, .ref s13_1, .ref s14_1, .int 0, .ref s15_1, .ref s16_1, .ref s17_1, .ref s18_1])) g0 = .inr (3, [.ref s1_1, .ref s2_1, .ref s3_1, .ref s4_1, .ref s5_1, .ref s6_1, .ref s7_1, .int pa_111, .int lm_111, .ref s8_1, .ref s9_1, .ref s10_1, .int z_401, .ref s11_1, .int nm_111, .ref s12_1, .ref s13_1, .ref s14_1, .int 0, .ref s15_1, .ref s16_1, .ref s17_1, .ref s18_1]) := va_up_self _ _ _
                              have eq_405 := (va_up_ne f_374 (.inr (3, [.ref s1_1, .ref s2_1, .ref s3_1, .ref s4_1, .ref s5_1, .ref s6_1, .ref s7_1, .int pa_111, .int lm_111, .ref s8_1, .ref s9_1, .ref s10_1, .int z_401, .ref s11_1, .int nm_111, .ref s12_1, .ref s13_1, .ref s14_1, .int 0, .ref s15_1, .ref s16_1, .ref s17_1, .ref s18_1])) (isr_ne fs1_1 hg0 (by decide))).trans eq_376
                              have eq_406 := (va_up_ne f_374 (.inr (3, [.ref s1_1, .ref s2_1, .ref s3_1, .ref s4_1, .ref s5_1, .ref s6_1, .ref s7_1, .int pa_111, .int lm_111, .ref s8_1, .ref s9_1, .ref s10_1, .int z_401, .ref s11_1, .int nm_111, .ref s12_1, .ref s13_1, .ref s14_1, .int 0, .ref s15_1, .ref s16_1, .ref s17_1, .ref s18_1])) (isr_ne fs2_1 hg0 (by decide))).trans eq_377
                              have eq_407 := (va_up_ne f_374 (.inr (3, [.ref s1_1, .ref s2_1, .ref s3_1, .ref s4_1, .ref s5_1, .ref s6_1, .ref s7_1, .int pa_111, .int lm_111, .ref s8_1, .ref s9_1, .ref s10_1, .int z_401, .ref s11_1, .int nm_111, .ref s12_1, .ref s13_1, .ref s14_1, .int 0, .ref s15_1, .ref s16_1, .ref s17_1, .ref s18_1])) (isr_ne fs3_1 hg0 (by decide))).trans eq_378
                              have eq_408 := (va_up_ne f_374 (.inr (3, [.ref s1_1, .ref s2_1, .ref s3_1, .ref s4_1, .ref s5_1, .ref s6_1, .ref s7_1, .int pa_111, .int lm_111, .ref s8_1, .ref s9_1, .ref s10_1, .int z_401, .ref s11_1, .int nm_111, .ref s12_1, .ref s13_1, .ref s14_1, .int 0, .ref s15_1, .ref s16_1, .ref s17_1, .ref s18_1])) (isr_ne fs4_1 hg0 (by decide))).trans eq_379
                              have eq_409 := (va_up_ne f_374 (.inr (3, [.ref s1_1, .ref s2_1, .ref s3_1, .ref s4_1, .ref s5_1, .ref s6_1, .ref s7_1, .int pa_111, .int lm_111, .ref s8_1, .ref s9_1, .ref s10_1, .int z_401, .ref s11_1, .int nm_111, .ref s12_1, .ref s13_1, .ref s14_1, .int 0, .ref s15_1, .ref s16_1, .ref s17_1, .ref s18_1])) (isr_ne fs5_1 hg0 (by decide))).trans eq_380
                              have eq_410 := (va_up_ne f_374 (.inr (3, [.ref s1_1, .ref s2_1, .ref s3_1, .ref s4_1, .ref s5_1, .ref s6_1, .ref s7_1, .int pa_111, .int lm_111, .ref s8_1, .ref s9_1, .ref s10_1, .int z_401, .ref s11_1, .int nm_111, .ref s12_1, .ref s13_1, .ref s14_1, .int 0, .ref s15_1, .ref s16_1, .ref s17_1, .ref s18_1])) (isr_ne fs8_1 hg0 (by decide))).trans eq_381
                              have eq_411 := (va_up_ne f_374 (.inr (3, [.ref s1_1, .ref s2_1, .ref s3_1, .ref s4_1, .ref s5_1, .ref s6_1, .ref s7_1, .int pa_111, .int lm_111, .ref s8_1, .ref s9_1, .ref s10_1, .int z_401, .ref s11_1, .int nm_111, .ref s12_1, .ref s13_1, .ref s14_1, .int 0, .ref s15_1, .ref s16_1, .ref s17_1, .ref s18_1])) (isr_ne fs9_1 hg0 (by decide))).trans eq_382
                              have eq_412 := (va_up_ne f_374 (.inr (3, [.ref s1_1, .ref s2_1, .ref s3_1, .ref s4_1, .ref s5_1, .ref s6_1, .ref s7_1, .int pa_111, .int lm_111, .ref s8_1, .ref s9_1, .ref s10_1, .int z_401, .ref s11_1, .int nm_111, .ref s12_1, .ref s13_1, .ref s14_1, .int 0, .ref s15_1, .ref s16_1, .ref s17_1, .ref s18_1])) (isr_ne fs10_1 hg0 (by decide))).trans eq_383
                              have eq_413 := (va_up_ne f_374 (.inr (3, [.ref s1_1, .ref s2_1, .ref s3_1, .ref s4_1, .ref s5_1, .ref s6_1, .ref s7_1, .int pa_111, .int lm_111, .ref s8_1, .ref s9_1, .ref s10_1, .int z_401, .ref s11_1, .int nm_111, .ref s12_1, .ref s13_1, .ref s14_1, .int 0, .ref s15_1, .ref s16_1, .ref s17_1, .ref s18_1])) (isr_ne fs11_1 hg0 (by decide))).trans es_f_374
                              have hfr := fr_up (S := (sK [10, 21, 22, 23, 24])) (e := .inr (3, [.ref s1_1, .ref s2_1, .ref s3_1, .ref s4_1, .ref s5_1, .ref s6_1, .ref s7_1, .int pa_111, .int lm_111, .ref s8_1, .ref s9_1, .ref s10_1, .int z_401, .ref s11_1, .int nm_111, .ref s12_1, .ref s13_1, .ref s14_1, .int 0, .ref s15_1, .ref s16_1, .ref s17_1, .ref s18_1])) hfr hg0 (by decide)
                              generalize hg_f_404 : va_up f_374 g0 (.inr (3, [.ref s1_1, .ref s2_1, .ref s3_1, .ref s4_1, .ref s5_1, .ref s6_1, .ref s7_1, .int pa_111, .int lm_111, .ref s8_1, .ref s9_1, .ref s10_1, .int z_401, .ref s11_1, .int nm_111, .ref s12_1, .ref s13_1, .ref s14_1, .int 0, .ref s15_1, .ref s16_1, .ref s17_1, .ref s18_1])) = f_404 at hP hD hPI es_f_404 eq_405 eq_406 eq_407 eq_408 eq_409 eq_410 eq_411 eq_412 eq_413 hfr
                              obtain ⟨i_414, ei_414⟩ : ∃ y : Int32, y = i4 + 1 := ⟨_, rfl⟩
                              refine lv_iinc (v := i_414) (lv' := [(4, .int i_414), (5, .int z_351), (3, .int z_102), (2, .int i2), (0, .ref g0), (1, .int o0)]) hx hb dX3_find_188 hl (k := 1) rfl (by rw [ei_414]; rfl) (by decide) rfl (fun ls hl => ?_)
                              have ki_414 := inc_toInt ei_414 (by omega)
                              refine lv_goto (tgt := 50) hx hb dX3_find_191 (by decide) ?_
                              exact ih_50 i_414 f_404 _ _ _  (by omega) (by omega) ⟨hfr, ⟨(show KQ2 f f_404 g0 from ⟨(by rw [es_f_404]; exact hk7), (by rw [es_f_404]; exact hk8)⟩), (by rw [(show cI (f_404 g0) 14 = nm_111 from by rw [es_f_404]; rfl)]; exact hn14), Or.inr ⟨(show cI (f_404 g0) 18 = 0 from by rw [es_f_404]; rfl), (by rw [sq_step (by omega) ki_414]; exact Nat.lt_of_lt_of_le hov (ad_len _ _))⟩⟩⟩ hPI hP hD hS (lv_sub hl [0, 2, 3, 4, 5] rfl)
                          · have c_372 := mt Int32.le_iff_toInt_le.mpr c_372
                            refine lv_aload_n hx hb dX3_find_153 rfl (lv_at hl 4 rfl) ?_
                            obtain ⟨k_415, hk_415⟩ := va_plg hg0.1 es_f_361
                            refine va_get (D := (dC, dI)) (ci := 3) (v := .int fm_111) (C := RX3) (T := TX3) (N := 23) hx hb hts iX3_ hown hK hP k_415 hk_415 rfl 12 (by decide) (hts (.fieldLink RX3 167 "FieldLeavesModel" "foundMany" "I") (by decide +kernel)) (fun _ h9 => h9) rfl dX3_find_154 ?_
                            refine lv_goto (tgt := 162) hx hb dX3_find_157 (by decide) ?_
                            refine lv_iload hx hb dX3_find_162 (lv_at hl 0 rfl) ?_
                            obtain ⟨g_416, e_416, fg_416⟩ := hPI.a21 fs11_1
                            obtain ⟨k_416, hk_416⟩ := va_plg fs11_1.1 e_416
                            have h_416 : vp_in fm_111 25 := (vp_in_iff.mpr (by constructor <;> omega))
                            have fw_416 := updS (P := fun v => 0 ≤ v.toInt ∧ v.toInt < 6400) (k := Int32.toNatClampNeg fm_111) (v := z_351) fg_416 (by omega)
                            have hD9 := hD
                            refine va_iast hx hb hK hP hD hS k_416 0 hk_416 rfl h_416 dX3_find_164 (fun H locs hP hD hS => ?_)
                            have hP : va_P (dC, dI) vwCl (va_pl L (va_up f_361 s11_1 (.inl (kI, 25, .inl (upd g_416 (Int32.toNatClampNeg fm_111) z_351))))) H := by rw [← va_pls hD9 fs11_1.1 hk_416 _]; exact hP
                            have hD : va_D A (va_pl L (va_up f_361 s11_1 (.inl (kI, 25, .inl (upd g_416 (Int32.toNatClampNeg fm_111) z_351))))) := by rw [← va_pls hD9 fs11_1.1 hk_416 _]; exact hD
                            have hPI := hPI.put (e := .inl (kI, 25, .inl (upd g_416 (Int32.toNatClampNeg fm_111) z_351))) fs11_1 ⟨_, rfl, fw_416⟩
                            have es_f_417 : va_up f_361 s11_1 (.inl (kI, 25, .inl (upd g_416 (Int32.toNatClampNeg fm_111) z_351))) s11_1 = .inl (kI, 25, .inl (upd g_416 (Int32.toNatClampNeg fm_111) z_351)) := va_up_self _ _ _
                            have eq_418 := (va_up_ne f_361 (.inl (kI, 25, .inl (upd g_416 (Int32.toNatClampNeg fm_111) z_351))) (isr_ne hg0 fs11_1 (by decide))).trans es_f_361
                            have eq_419 := (va_up_ne f_361 (.inl (kI, 25, .inl (upd g_416 (Int32.toNatClampNeg fm_111) z_351))) (isr_ne fs1_1 fs11_1 (by decide))).trans eq_362
                            have eq_420 := (va_up_ne f_361 (.inl (kI, 25, .inl (upd g_416 (Int32.toNatClampNeg fm_111) z_351))) (isr_ne fs2_1 fs11_1 (by decide))).trans eq_363
                            have eq_421 := (va_up_ne f_361 (.inl (kI, 25, .inl (upd g_416 (Int32.toNatClampNeg fm_111) z_351))) (isr_ne fs3_1 fs11_1 (by decide))).trans eq_364
                            have eq_422 := (va_up_ne f_361 (.inl (kI, 25, .inl (upd g_416 (Int32.toNatClampNeg fm_111) z_351))) (isr_ne fs4_1 fs11_1 (by decide))).trans eq_365
                            have eq_423 := (va_up_ne f_361 (.inl (kI, 25, .inl (upd g_416 (Int32.toNatClampNeg fm_111) z_351))) (isr_ne fs5_1 fs11_1 (by decide))).trans eq_366
                            have eq_424 := (va_up_ne f_361 (.inl (kI, 25, .inl (upd g_416 (Int32.toNatClampNeg fm_111) z_351))) (isr_ne fs8_1 fs11_1 (by decide))).trans eq_367
                            have eq_425 := (va_up_ne f_361 (.inl (kI, 25, .inl (upd g_416 (Int32.toNatClampNeg fm_111) z_351))) (isr_ne fs9_1 fs11_1 (by decide))).trans eq_368
                            have eq_426 := (va_up_ne f_361 (.inl (kI, 25, .inl (upd g_416 (Int32.toNatClampNeg fm_111) z_351))) (isr_ne fs10_1 fs11_1 (by decide))).trans eq_369
                            have hfr := fr_up (S := (sK [10, 21, 22, 23, 24])) (e := .inl (kI, 25, .inl (upd g_416 (Int32.toNatClampNeg fm_111) z_351))) hfr fs11_1 (by decide)
                            generalize hg_f_417 : va_up f_361 s11_1 (.inl (kI, 25, .inl (upd g_416 (Int32.toNatClampNeg fm_111) z_351))) = f_417 at hP hD hPI es_f_417 eq_418 eq_419 eq_420 eq_421 eq_422 eq_423 eq_424 eq_425 eq_426 hfr
                            refine lv_aload_n hx hb dX3_find_165 rfl (lv_at hl 4 rfl) ?_
                            refine lv_dup hx hb dX3_find_166 rfl ?_
                            obtain ⟨k_427, hk_427⟩ := va_plg hg0.1 eq_418
                            refine va_get (D := (dC, dI)) (ci := 3) (v := .int fm_111) (C := RX3) (T := TX3) (N := 23) hx hb hts iX3_ hown hK hP k_427 hk_427 rfl 12 (by decide) (hts (.fieldLink RX3 167 "FieldLeavesModel" "foundMany" "I") (by decide +kernel)) (fun _ h9 => h9) rfl dX3_find_167 ?_
                            refine lv_aload_n hx hb dX3_find_170 rfl (lv_at hl 4 rfl) ?_
                            obtain ⟨k_428, hk_428⟩ := va_plg hg0.1 eq_418
                            refine va_get (D := (dC, dI)) (ci := 3) (v := .int fm_111) (C := RX3) (T := TX3) (N := 23) hx hb hts iX3_ hown hK hP k_428 hk_428 rfl 12 (by decide) (hts (.fieldLink RX3 167 "FieldLeavesModel" "foundMany" "I") (by decide +kernel)) (fun _ h9 => h9) rfl dX3_find_171 ?_
                            refine lv_bipush (v := 24) hx hb dX3_find_174 (by decide) ?_
                            refine lv_icmp_ge (tgt := 183) hx hb dX3_find_176 (by decide) (fun c_429 => ?_) (fun c_429 => ?_)
                            · have c_429 := Int32.le_iff_toInt_le.mp c_429
                              refine lv_iconst (v := 0) hx hb dX3_find_183 (by decide) ?_
                              refine lv_iadd hx hb dX3_find_184 ?_
                              refine lv_topi (fun z_430 ez_430 => ?_)
                              have kz_430 := add_toInt ez_430 (by omega) (by omega)
                              obtain ⟨k_431, hk_431⟩ := va_plg hg0.1 eq_418
                              have hD9 := hD
                              have rg_432 : 0 ≤ Int32.toInt z_430 ∧ Int32.toInt z_430 ≤ 24 := by constructor <;> omega
                              refine va_put (D := (dC, dI)) (ci := 3) (v := .int z_430) (ty := .int) (C := RX3) (T := TX3) (N := 23) hx hb hts iX3_ tyX3 tyX3_ok nmX3 hown hK hP hD hS k_431 hk_431 rfl 12 (by decide) (hts (.fieldLink RX3 167 "FieldLeavesModel" "foundMany" "I") (by decide +kernel)) (fun _ h9 => h9) rfl (by decide +kernel) rfl rfl (Nat.le_of_ble_eq_true rfl) dX3_find_185 (fun H locs hP hD hS => ?_)
                              have hP : va_P (dC, dI) vwCl (va_pl L (va_up f_417 g0 (.inr (3, [.ref s1_1, .ref s2_1, .ref s3_1, .ref s4_1, .ref s5_1, .ref s6_1, .ref s7_1, .int pa_111, .int lm_111, .ref s8_1, .ref s9_1, .ref s10_1, .int z_430, .ref s11_1, .int nm_111, .ref s12_1, .ref s13_1, .ref s14_1, .int 0, .ref s15_1, .ref s16_1, .ref s17_1, .ref s18_1])))) H := by rw [← va_pls hD9 hg0.1 hk_431 _]; exact hP
                              have hD : va_D A (va_pl L (va_up f_417 g0 (.inr (3, [.ref s1_1, .ref s2_1, .ref s3_1, .ref s4_1, .ref s5_1, .ref s6_1, .ref s7_1, .int pa_111, .int lm_111, .ref s8_1, .ref s9_1, .ref s10_1, .int z_430, .ref s11_1, .int nm_111, .ref s12_1, .ref s13_1, .ref s14_1, .int 0, .ref s15_1, .ref s16_1, .ref s17_1, .ref s18_1])))) := by rw [← va_pls hD9 hg0.1 hk_431 _]; exact hD
                              have hPI := hPI.put (e := .inr (3, [.ref s1_1, .ref s2_1, .ref s3_1, .ref s4_1, .ref s5_1, .ref s6_1, .ref s7_1, .int pa_111, .int lm_111, .ref s8_1, .ref s9_1, .ref s10_1, .int z_430, .ref s11_1, .int nm_111, .ref s12_1, .ref s13_1, .ref s14_1, .int 0, .ref s15_1, .ref s16_1, .ref s17_1, .ref s18_1])) hg0 ⟨s1_1, s2_1, s3_1, s4_1, s5_1, s6_1, s7_1, pa_111, lm_111, s8_1, s9_1, s10_1, z_430, s11_1, nm_111, s12_1, s13_1, s14_1, 0, s15_1, s16_1, s17_1, s18_1, rfl, fs1_1, fs2_1, fs3_1, fs4_1, fs5_1, fs6_1, fs7_1, flm_111, fs8_1, fs9_1, fs10_1, rg_432, fs11_1, fnm_111, fs12_1, fs13_1, fs14_1, (Or.inr rfl), fs15_1, fs16_1, fs17_1, fs18_1⟩
                              have es_f_433 : va_up f_417 g0 (.inr (3, [.ref s1_1, .ref s2_1, .ref s3_1, .ref s4_1, .ref s5_1, .ref s6_1, .ref s7_1, .int pa_111, .int lm_111, .ref s8_1, .ref s9_1, .ref s10_1, .int z_430, .ref s11_1, .int nm_111, .ref s12_1, .ref s13_1, .ref s14_1, .int 0, .ref s15_1, .ref s16_1, .ref s17_1, .ref s18_1])) g0 = .inr (3, [.ref s1_1, .ref s2_1, .ref s3_1, .ref s4_1, .ref s5_1, .ref s6_1, .ref s7_1, .int pa_111, .int lm_111, .ref s8_1, .ref s9_1, .ref s10_1, .int z_430, .ref s11_1, .int nm_111, .ref s12_1, .ref s13_1, .ref s14_1, .int 0, .ref s15_1, .ref s16_1, .ref s17_1, .ref s18_1]) := va_up_self _ _ _
                              have eq_434 := (va_up_ne f_417 (.inr (3, [.ref s1_1, .ref s2_1, .ref s3_1, .ref s4_1, .ref s5_1, .ref s6_1, .ref s7_1, .int pa_111, .int lm_111, .ref s8_1, .ref s9_1, .ref s10_1, .int z_430, .ref s11_1, .int nm_111, .ref s12_1, .ref s13_1, .ref s14_1, .int 0, .ref s15_1, .ref s16_1, .ref s17_1, .ref s18_1])) (isr_ne fs1_1 hg0 (by decide))).trans eq_419
                              have eq_435 := (va_up_ne f_417 (.inr (3, [.ref s1_1, .ref s2_1, .ref s3_1, .ref s4_1, .ref s5_1, .ref s6_1, .ref s7_1, .int pa_111, .int lm_111, .ref s8_1, .ref s9_1, .ref s10_1, .int z_430, .ref s11_1, .int nm_111, .ref s12_1, .ref s13_1, .ref s14_1, .int 0, .ref s15_1, .ref s16_1, .ref s17_1, .ref s18_1])) (isr_ne fs2_1 hg0 (by decide))).trans eq_420
                              have eq_436 := (va_up_ne f_417 (.inr (3, [.ref s1_1, .ref s2_1, .ref s3_1, .ref s4_1, .ref s5_1, .ref s6_1, .ref s7_1, .int pa_111, .int lm_111, .ref s8_1, .ref s9_1, .ref s10_1, .int z_430, .ref s11_1, .int nm_111, .ref s12_1, .ref s13_1, .ref s14_1, .int 0, .ref s15_1, .ref s16_1, .ref s17_1, .ref s18_1])) (isr_ne fs3_1 hg0 (by decide))).trans eq_421
                              have eq_437 := (va_up_ne f_417 (.inr (3, [.ref s1_1, .ref s2_1, .ref s3_1, .ref s4_1, .ref s5_1, .ref s6_1, .ref s7_1, .int pa_111, .int lm_111, .ref s8_1, .ref s9_1, .ref s10_1, .int z_430, .ref s11_1, .int nm_111, .ref s12_1, .ref s13_1, .ref s14_1, .int 0, .ref s15_1, .ref s16_1, .ref s17_1, .ref s18_1])) (isr_ne fs4_1 hg0 (by decide))).trans eq_422
                              have eq_438 := (va_up_ne f_417 (.inr (3, [.ref s1_1, .ref s2_1, .ref s3_1, .ref s4_1, .ref s5_1, .ref s6_1, .ref s7_1, .int pa_111, .int lm_111, .ref s8_1, .ref s9_1, .ref s10_1, .int z_430, .ref s11_1, .int nm_111, .ref s12_1, .ref s13_1, .ref s14_1, .int 0, .ref s15_1, .ref s16_1, .ref s17_1, .ref s18_1])) (isr_ne fs5_1 hg0 (by decide))).trans eq_423
                              have eq_439 := (va_up_ne f_417 (.inr (3, [.ref s1_1, .ref s2_1, .ref s3_1, .ref s4_1, .ref s5_1, .ref s6_1, .ref s7_1, .int pa_111, .int lm_111, .ref s8_1, .ref s9_1, .ref s10_1, .int z_430, .ref s11_1, .int nm_111, .ref s12_1, .ref s13_1, .ref s14_1, .int 0, .ref s15_1, .ref s16_1, .ref s17_1, .ref s18_1])) (isr_ne fs8_1 hg0 (by decide))).trans eq_424
                              have eq_440 := (va_up_ne f_417 (.inr (3, [.ref s1_1, .ref s2_1, .ref s3_1, .ref s4_1, .ref s5_1, .ref s6_1, .ref s7_1, .int pa_111, .int lm_111, .ref s8_1, .ref s9_1, .ref s10_1, .int z_430, .ref s11_1, .int nm_111, .ref s12_1, .ref s13_1, .ref s14_1, .int 0, .ref s15_1, .ref s16_1, .ref s17_1, .ref s18_1])) (isr_ne fs9_1 hg0 (by decide))).trans eq_425
                              have eq_441 := (va_up_ne f_417 (.inr (3, [.ref s1_1, .ref s2_1, .ref s3_1, .ref s4_1, .ref s5_1, .ref s6_1, .ref s7_1, .int pa_111, .int lm_111, .ref s8_1, .ref s9_1, .ref s10_1, .int z_430, .ref s11_1, .int nm_111, .ref s12_1, .ref s13_1, .ref s14_1, .int 0, .ref s15_1, .ref s16_1, .ref s17_1, .ref s18_1])) (isr_ne fs10_1 hg0 (by decide))).trans eq_426
                              have eq_442 := (va_up_ne f_417 (.inr (3, [.ref s1_1, .ref s2_1, .ref s3_1, .ref s4_1, .ref s5_1, .ref s6_1, .ref s7_1, .int pa_111, .int lm_111, .ref s8_1, .ref s9_1, .ref s10_1, .int z_430, .ref s11_1, .int nm_111, .ref s12_1, .ref s13_1, .ref s14_1, .int 0, .ref s15_1, .ref s16_1, .ref s17_1, .ref s18_1])) (isr_ne fs11_1 hg0 (by decide))).trans es_f_417
                              have hfr := fr_up (S := (sK [10, 21, 22, 23, 24])) (e := .inr (3, [.ref s1_1, .ref s2_1, .ref s3_1, .ref s4_1, .ref s5_1, .ref s6_1, .ref s7_1, .int pa_111, .int lm_111, .ref s8_1, .ref s9_1, .ref s10_1, .int z_430, .ref s11_1, .int nm_111, .ref s12_1, .ref s13_1, .ref s14_1, .int 0, .ref s15_1, .ref s16_1, .ref s17_1, .ref s18_1])) hfr hg0 (by decide)
                              generalize hg_f_433 : va_up f_417 g0 (.inr (3, [.ref s1_1, .ref s2_1, .ref s3_1, .ref s4_1, .ref s5_1, .ref s6_1, .ref s7_1, .int pa_111, .int lm_111, .ref s8_1, .ref s9_1, .ref s10_1, .int z_430, .ref s11_1, .int nm_111, .ref s12_1, .ref s13_1, .ref s14_1, .int 0, .ref s15_1, .ref s16_1, .ref s17_1, .ref s18_1])) = f_433 at hP hD hPI es_f_433 eq_434 eq_435 eq_436 eq_437 eq_438 eq_439 eq_440 eq_441 eq_442 hfr
                              obtain ⟨i_443, ei_443⟩ : ∃ y : Int32, y = i4 + 1 := ⟨_, rfl⟩
                              refine lv_iinc (v := i_443) (lv' := [(4, .int i_443), (5, .int z_351), (3, .int z_102), (2, .int i2), (0, .ref g0), (1, .int o0)]) hx hb dX3_find_188 hl (k := 1) rfl (by rw [ei_443]; rfl) (by decide) rfl (fun ls hl => ?_)
                              have ki_443 := inc_toInt ei_443 (by omega)
                              refine lv_goto (tgt := 50) hx hb dX3_find_191 (by decide) ?_
                              exact ih_50 i_443 f_433 _ _ _  (by omega) (by omega) ⟨hfr, ⟨(show KQ2 f f_433 g0 from ⟨(by rw [es_f_433]; exact hk7), (by rw [es_f_433]; exact hk8)⟩), (by rw [(show cI (f_433 g0) 14 = nm_111 from by rw [es_f_433]; rfl)]; exact hn14), Or.inr ⟨(show cI (f_433 g0) 18 = 0 from by rw [es_f_433]; rfl), (by rw [sq_step (by omega) ki_443]; exact Nat.lt_of_lt_of_le hov (ad_len _ _))⟩⟩⟩ hPI hP hD hS (lv_sub hl [0, 2, 3, 4, 5] rfl)
                            · have c_429 := mt Int32.le_iff_toInt_le.mpr c_429
                              refine lv_iconst (v := 1) hx hb dX3_find_179 (by decide) ?_
                              refine lv_goto (tgt := 184) hx hb dX3_find_180 (by decide) ?_
                              refine lv_iadd hx hb dX3_find_184 ?_
                              refine lv_topi (fun z_444 ez_444 => ?_)
                              have kz_444 := add_toInt ez_444 (by omega) (by omega)
                              obtain ⟨k_445, hk_445⟩ := va_plg hg0.1 eq_418
                              have hD9 := hD
                              have rg_446 : 0 ≤ Int32.toInt z_444 ∧ Int32.toInt z_444 ≤ 24 := by constructor <;> omega
                              refine va_put (D := (dC, dI)) (ci := 3) (v := .int z_444) (ty := .int) (C := RX3) (T := TX3) (N := 23) hx hb hts iX3_ tyX3 tyX3_ok nmX3 hown hK hP hD hS k_445 hk_445 rfl 12 (by decide) (hts (.fieldLink RX3 167 "FieldLeavesModel" "foundMany" "I") (by decide +kernel)) (fun _ h9 => h9) rfl (by decide +kernel) rfl rfl (Nat.le_of_ble_eq_true rfl) dX3_find_185 (fun H locs hP hD hS => ?_)
                              have hP : va_P (dC, dI) vwCl (va_pl L (va_up f_417 g0 (.inr (3, [.ref s1_1, .ref s2_1, .ref s3_1, .ref s4_1, .ref s5_1, .ref s6_1, .ref s7_1, .int pa_111, .int lm_111, .ref s8_1, .ref s9_1, .ref s10_1, .int z_444, .ref s11_1, .int nm_111, .ref s12_1, .ref s13_1, .ref s14_1, .int 0, .ref s15_1, .ref s16_1, .ref s17_1, .ref s18_1])))) H := by rw [← va_pls hD9 hg0.1 hk_445 _]; exact hP
                              have hD : va_D A (va_pl L (va_up f_417 g0 (.inr (3, [.ref s1_1, .ref s2_1, .ref s3_1, .ref s4_1, .ref s5_1, .ref s6_1, .ref s7_1, .int pa_111, .int lm_111, .ref s8_1, .ref s9_1, .ref s10_1, .int z_444, .ref s11_1, .int nm_111, .ref s12_1, .ref s13_1, .ref s14_1, .int 0, .ref s15_1, .ref s16_1, .ref s17_1, .ref s18_1])))) := by rw [← va_pls hD9 hg0.1 hk_445 _]; exact hD
                              have hPI := hPI.put (e := .inr (3, [.ref s1_1, .ref s2_1, .ref s3_1, .ref s4_1, .ref s5_1, .ref s6_1, .ref s7_1, .int pa_111, .int lm_111, .ref s8_1, .ref s9_1, .ref s10_1, .int z_444, .ref s11_1, .int nm_111, .ref s12_1, .ref s13_1, .ref s14_1, .int 0, .ref s15_1, .ref s16_1, .ref s17_1, .ref s18_1])) hg0 ⟨s1_1, s2_1, s3_1, s4_1, s5_1, s6_1, s7_1, pa_111, lm_111, s8_1, s9_1, s10_1, z_444, s11_1, nm_111, s12_1, s13_1, s14_1, 0, s15_1, s16_1, s17_1, s18_1, rfl, fs1_1, fs2_1, fs3_1, fs4_1, fs5_1, fs6_1, fs7_1, flm_111, fs8_1, fs9_1, fs10_1, rg_446, fs11_1, fnm_111, fs12_1, fs13_1, fs14_1, (Or.inr rfl), fs15_1, fs16_1, fs17_1, fs18_1⟩
                              have es_f_447 : va_up f_417 g0 (.inr (3, [.ref s1_1, .ref s2_1, .ref s3_1, .ref s4_1, .ref s5_1, .ref s6_1, .ref s7_1, .int pa_111, .int lm_111, .ref s8_1, .ref s9_1, .ref s10_1, .int z_444, .ref s11_1, .int nm_111, .ref s12_1, .ref s13_1, .ref s14_1, .int 0, .ref s15_1, .ref s16_1, .ref s17_1, .ref s18_1])) g0 = .inr (3, [.ref s1_1, .ref s2_1, .ref s3_1, .ref s4_1, .ref s5_1, .ref s6_1, .ref s7_1, .int pa_111, .int lm_111, .ref s8_1, .ref s9_1, .ref s10_1, .int z_444, .ref s11_1, .int nm_111, .ref s12_1, .ref s13_1, .ref s14_1, .int 0, .ref s15_1, .ref s16_1, .ref s17_1, .ref s18_1]) := va_up_self _ _ _
                              have eq_448 := (va_up_ne f_417 (.inr (3, [.ref s1_1, .ref s2_1, .ref s3_1, .ref s4_1, .ref s5_1, .ref s6_1, .ref s7_1, .int pa_111, .int lm_111, .ref s8_1, .ref s9_1, .ref s10_1, .int z_444, .ref s11_1, .int nm_111, .ref s12_1, .ref s13_1, .ref s14_1, .int 0, .ref s15_1, .ref s16_1, .ref s17_1, .ref s18_1])) (isr_ne fs1_1 hg0 (by decide))).trans eq_419
                              have eq_449 := (va_up_ne f_417 (.inr (3, [.ref s1_1, .ref s2_1, .ref s3_1, .ref s4_1, .ref s5_1, .ref s6_1, .ref s7_1, .int pa_111, .int lm_111, .ref s8_1, .ref s9_1, .ref s10_1, .int z_444, .ref s11_1, .int nm_111, .ref s12_1, .ref s13_1, .ref s14_1, .int 0, .ref s15_1, .ref s16_1, .ref s17_1, .ref s18_1])) (isr_ne fs2_1 hg0 (by decide))).trans eq_420
                              have eq_450 := (va_up_ne f_417 (.inr (3, [.ref s1_1, .ref s2_1, .ref s3_1, .ref s4_1, .ref s5_1, .ref s6_1, .ref s7_1, .int pa_111, .int lm_111, .ref s8_1, .ref s9_1, .ref s10_1, .int z_444, .ref s11_1, .int nm_111, .ref s12_1, .ref s13_1, .ref s14_1, .int 0, .ref s15_1, .ref s16_1, .ref s17_1, .ref s18_1])) (isr_ne fs3_1 hg0 (by decide))).trans eq_421
                              have eq_451 := (va_up_ne f_417 (.inr (3, [.ref s1_1, .ref s2_1, .ref s3_1, .ref s4_1, .ref s5_1, .ref s6_1, .ref s7_1, .int pa_111, .int lm_111, .ref s8_1, .ref s9_1, .ref s10_1, .int z_444, .ref s11_1, .int nm_111, .ref s12_1, .ref s13_1, .ref s14_1, .int 0, .ref s15_1, .ref s16_1, .ref s17_1, .ref s18_1])) (isr_ne fs4_1 hg0 (by decide))).trans eq_422
                              have eq_452 := (va_up_ne f_417 (.inr (3, [.ref s1_1, .ref s2_1, .ref s3_1, .ref s4_1, .ref s5_1, .ref s6_1, .ref s7_1, .int pa_111, .int lm_111, .ref s8_1, .ref s9_1, .ref s10_1, .int z_444, .ref s11_1, .int nm_111, .ref s12_1, .ref s13_1, .ref s14_1, .int 0, .ref s15_1, .ref s16_1, .ref s17_1, .ref s18_1])) (isr_ne fs5_1 hg0 (by decide))).trans eq_423
                              have eq_453 := (va_up_ne f_417 (.inr (3, [.ref s1_1, .ref s2_1, .ref s3_1, .ref s4_1, .ref s5_1, .ref s6_1, .ref s7_1, .int pa_111, .int lm_111, .ref s8_1, .ref s9_1, .ref s10_1, .int z_444, .ref s11_1, .int nm_111, .ref s12_1, .ref s13_1, .ref s14_1, .int 0, .ref s15_1, .ref s16_1, .ref s17_1, .ref s18_1])) (isr_ne fs8_1 hg0 (by decide))).trans eq_424
                              have eq_454 := (va_up_ne f_417 (.inr (3, [.ref s1_1, .ref s2_1, .ref s3_1, .ref s4_1, .ref s5_1, .ref s6_1, .ref s7_1, .int pa_111, .int lm_111, .ref s8_1, .ref s9_1, .ref s10_1, .int z_444, .ref s11_1, .int nm_111, .ref s12_1, .ref s13_1, .ref s14_1, .int 0, .ref s15_1, .ref s16_1, .ref s17_1, .ref s18_1])) (isr_ne fs9_1 hg0 (by decide))).trans eq_425
                              have eq_455 := (va_up_ne f_417 (.inr (3, [.ref s1_1, .ref s2_1, .ref s3_1, .ref s4_1, .ref s5_1, .ref s6_1, .ref s7_1, .int pa_111, .int lm_111, .ref s8_1, .ref s9_1, .ref s10_1, .int z_444, .ref s11_1, .int nm_111, .ref s12_1, .ref s13_1, .ref s14_1, .int 0, .ref s15_1, .ref s16_1, .ref s17_1, .ref s18_1])) (isr_ne fs10_1 hg0 (by decide))).trans eq_426
                              have eq_456 := (va_up_ne f_417 (.inr (3, [.ref s1_1, .ref s2_1, .ref s3_1, .ref s4_1, .ref s5_1, .ref s6_1, .ref s7_1, .int pa_111, .int lm_111, .ref s8_1, .ref s9_1, .ref s10_1, .int z_444, .ref s11_1, .int nm_111, .ref s12_1, .ref s13_1, .ref s14_1, .int 0, .ref s15_1, .ref s16_1, .ref s17_1, .ref s18_1])) (isr_ne fs11_1 hg0 (by decide))).trans es_f_417
                              have hfr := fr_up (S := (sK [10, 21, 22, 23, 24])) (e := .inr (3, [.ref s1_1, .ref s2_1, .ref s3_1, .ref s4_1, .ref s5_1, .ref s6_1, .ref s7_1, .int pa_111, .int lm_111, .ref s8_1, .ref s9_1, .ref s10_1, .int z_444, .ref s11_1, .int nm_111, .ref s12_1, .ref s13_1, .ref s14_1, .int 0, .ref s15_1, .ref s16_1, .ref s17_1, .ref s18_1])) hfr hg0 (by decide)
                              generalize hg_f_447 : va_up f_417 g0 (.inr (3, [.ref s1_1, .ref s2_1, .ref s3_1, .ref s4_1, .ref s5_1, .ref s6_1, .ref s7_1, .int pa_111, .int lm_111, .ref s8_1, .ref s9_1, .ref s10_1, .int z_444, .ref s11_1, .int nm_111, .ref s12_1, .ref s13_1, .ref s14_1, .int 0, .ref s15_1, .ref s16_1, .ref s17_1, .ref s18_1])) = f_447 at hP hD hPI es_f_447 eq_448 eq_449 eq_450 eq_451 eq_452 eq_453 eq_454 eq_455 eq_456 hfr
                              obtain ⟨i_457, ei_457⟩ : ∃ y : Int32, y = i4 + 1 := ⟨_, rfl⟩
                              refine lv_iinc (v := i_457) (lv' := [(4, .int i_457), (5, .int z_351), (3, .int z_102), (2, .int i2), (0, .ref g0), (1, .int o0)]) hx hb dX3_find_188 hl (k := 1) rfl (by rw [ei_457]; rfl) (by decide) rfl (fun ls hl => ?_)
                              have ki_457 := inc_toInt ei_457 (by omega)
                              refine lv_goto (tgt := 50) hx hb dX3_find_191 (by decide) ?_
                              exact ih_50 i_457 f_447 _ _ _  (by omega) (by omega) ⟨hfr, ⟨(show KQ2 f f_447 g0 from ⟨(by rw [es_f_447]; exact hk7), (by rw [es_f_447]; exact hk8)⟩), (by rw [(show cI (f_447 g0) 14 = nm_111 from by rw [es_f_447]; rfl)]; exact hn14), Or.inr ⟨(show cI (f_447 g0) 18 = 0 from by rw [es_f_447]; rfl), (by rw [sq_step (by omega) ki_457]; exact Nat.lt_of_lt_of_le hov (ad_len _ _))⟩⟩⟩ hPI hP hD hS (lv_sub hl [0, 2, 3, 4, 5] rfl)
                    · refine lv_if_eq (tgt := 95) hx hb dX3_find_76 (by decide) (fun _ => ?_) (fun c9 => absurd c9 (by decide))
                      refine lv_iconst (v := (-1)) hx hb dX3_find_95 (by decide) ?_
                      refine lv_istore (lv' := [(5, .int (-1)), (4, .int i4), (3, .int z_102), (2, .int i2), (0, .ref g0), (1, .int o0)]) hx hb dX3_find_96 hl (by decide) rfl (fun ls hl => ?_)
                      refine lv_iload hx hb dX3_find_98 (lv_at hl 0 rfl) ?_
                      refine lv_iconst (v := (-1)) hx hb dX3_find_100 (by decide) ?_
                      refine lv_icmp_eq (tgt := 188) hx hb dX3_find_101 (by decide) (fun _ => ?_) (fun c9 => absurd c9 (by decide))
                      obtain ⟨i_458, ei_458⟩ : ∃ y : Int32, y = i4 + 1 := ⟨_, rfl⟩
                      refine lv_iinc (v := i_458) (lv' := [(4, .int i_458), (5, .int (-1)), (3, .int z_102), (2, .int i2), (0, .ref g0), (1, .int o0)]) hx hb dX3_find_188 hl (k := 1) rfl (by rw [ei_458]; rfl) (by decide) rfl (fun ls hl => ?_)
                      have ki_458 := inc_toInt ei_458 (by omega)
                      refine lv_goto (tgt := 50) hx hb dX3_find_191 (by decide) ?_
                      exact ih_50 i_458 fl50 _ _ _  (by omega) (by omega) ⟨hfr, ⟨(show KQ2 f fl50 g0 from ⟨(by rw [e_111]; exact hk7), (by rw [e_111]; exact hk8)⟩), (by rw [(show cI (fl50 g0) 14 = nm_111 from by rw [e_111]; rfl)]; exact hn14), Or.inr ⟨(show cI (fl50 g0) 18 = 0 from by rw [e_111]; rfl), (by rw [sq_step (by omega) ki_458]; exact Nat.lt_of_lt_of_le hov (ad_len _ _))⟩⟩⟩ hPI hP hD hS (lv_sub hl [0, 2, 3, 4, 5] rfl)
                  · refine lv_if_eq (tgt := 95) hx hb dX3_find_62 (by decide) (fun _ => ?_) (fun c9 => absurd c9 (by decide))
                    refine lv_iconst (v := (-1)) hx hb dX3_find_95 (by decide) ?_
                    refine lv_istore (lv' := [(5, .int (-1)), (4, .int i4), (3, .int z_102), (2, .int i2), (0, .ref g0), (1, .int o0)]) hx hb dX3_find_96 hl (by decide) rfl (fun ls hl => ?_)
                    refine lv_iload hx hb dX3_find_98 (lv_at hl 0 rfl) ?_
                    refine lv_iconst (v := (-1)) hx hb dX3_find_100 (by decide) ?_
                    refine lv_icmp_eq (tgt := 188) hx hb dX3_find_101 (by decide) (fun _ => ?_) (fun c9 => absurd c9 (by decide))
                    obtain ⟨i_459, ei_459⟩ : ∃ y : Int32, y = i4 + 1 := ⟨_, rfl⟩
                    refine lv_iinc (v := i_459) (lv' := [(4, .int i_459), (5, .int (-1)), (3, .int z_102), (2, .int i2), (0, .ref g0), (1, .int o0)]) hx hb dX3_find_188 hl (k := 1) rfl (by rw [ei_459]; rfl) (by decide) rfl (fun ls hl => ?_)
                    have ki_459 := inc_toInt ei_459 (by omega)
                    refine lv_goto (tgt := 50) hx hb dX3_find_191 (by decide) ?_
                    exact ih_50 i_459 fl50 _ _ _  (by omega) (by omega) ⟨hfr, ⟨(show KQ2 f fl50 g0 from ⟨(by rw [e_111]; exact hk7), (by rw [e_111]; exact hk8)⟩), (by rw [(show cI (fl50 g0) 14 = nm_111 from by rw [e_111]; rfl)]; exact hn14), Or.inr ⟨(show cI (fl50 g0) 18 = 0 from by rw [e_111]; rfl), (by rw [sq_step (by omega) ki_459]; exact Nat.lt_of_lt_of_le hov (ad_len _ _))⟩⟩⟩ hPI hP hD hS (lv_sub hl [0, 2, 3, 4, 5] rfl)
          exact loop_50 9 8 fl _ _ _  (by omega) (by omega) ⟨FR.rf, ⟨(show KQ2 f fl g0 from ⟨(by rw [e_56]; exact hk7), (by rw [e_56]; exact hk8)⟩), (by rw [(show cI (fl g0) 14 = nm_56 from by rw [e_56]; rfl)]; exact hn14), Or.inl ⟨(show cI (fl g0) 18 = 1 from by rw [e_56]; rfl), (by rw [show (Int32.toInt 8 - 8).toNat = 0 from by rw [k8_]; rfl]; exact ⟨gF, hr21, (by rw [(show cI (fl g0) 12 = fm_56 from by rw [e_56]; rfl)]; exact hfm), hat⟩)⟩⟩⟩ hPI hP hD hS (lv_sub hl [0, 1, 2, 3, 4] rfl)
      · subst h18
        have hn14 : nm_56.toInt = 0 := by rw [← (show cI (fl g0) 14 = nm_56 from by rw [e_56]; rfl)]; exact h14
        refine lv_iload_n hx hb dX3_find_24 rfl (lv_at hl 0 rfl) ?_
        refine lv_aload_n hx hb dX3_find_25 rfl (lv_at hl 1 rfl) ?_
        obtain ⟨k_460, hk_460⟩ := va_plg hg0.1 e_56
        refine va_get (D := (dC, dI)) (ci := 3) (v := .int fm_56) (C := RX3) (T := TX3) (N := 23) hx hb hts iX3_ hown hK hP k_460 hk_460 rfl 12 (by decide) (hts (.fieldLink RX3 167 "FieldLeavesModel" "foundMany" "I") (by decide +kernel)) (fun _ h9 => h9) rfl dX3_find_26 ?_
        refine lv_icmp_ge (tgt := 200) hx hb dX3_find_29 (by decide) (fun c_461 => ?_) (fun c_461 => ?_)
        · have c_461 := Int32.le_iff_toInt_le.mp c_461
          refine lv_iconst (v := 0) hx hb dX3_find_200 (by decide) ?_
          refine lv_istore_n (lv' := [(2, .int 0), (0, .ref g0), (1, .int o0)]) hx hb dX3_find_201 rfl hl (by decide) rfl (fun ls hl => ?_)
          have hfrE202 := hfr
          have loop_202 : ∀ (n : Nat) (j2 : Int32)   (fl202 : Nat → va_E) (H : Heap) (locs : List Loc) (ls : Array Slot), (0 ≤ j2.toInt ∧ j2.toInt ≤ 24) → (24 - j2.toInt).toNat < n → (FR (sK [10, 21, 22, 23, 24]) K L fl fl202 ∧ (KQ2 f fl202 g0 ∧ ((∃ lf, (fd (r_lk fC fF) 25 0 [(Int32.toNatClampNeg o0)]) = some lf ∧ FLr kI K L fl202 g0 lf ∧ j2.toInt ≤ (lf.length : Int) ∧ TSr kI kJ K L fl202 g0 (lall (tls (-4) fC (r_vl fC fF) (r_lk fC fF) (r_rw fC fR fW) lf) (Int32.toNatClampNeg j2))) ∨ (cI (fl202 g0) 18 = 0 ∧ (fd (r_lk fC fF) 25 0 [(Int32.toNatClampNeg o0)]) = none)))) → PR kI kJ kZ K L fl202 → va_P (dC, dI) vwCl (va_pl L fl202) H → va_D A (va_pl L fl202) → va_S A s.heap H locs → lv_has ls 6 [(2, .int j2), (0, .ref g0), (1, .int o0)] → W p l e (headSpec wsX3_find ({ frames := 2, cells := 0, slots := 0, locals := 50 } : Room)).room s m (([.ref g0, .int o0] : List Value).toArray) below meth c H locs 0 0 Q0 (F0 m 202 ls []) := by
            intro n
            induction n with
            | zero => intro j2 fl202 H locs ls  _ h9; exact absurd h9 (Nat.not_lt_zero _)
            | succ n ih_202 =>
              intro j2 fl202 H locs ls  hI hM hFN hPI hP hD hS hl
              obtain ⟨hfr, hFN⟩ := hFN
              have eq_462 := (hfr s1_1 fs1_1.1 (by rw [fs1_1.2]; rfl)).trans eq_48
              have eq_463 := (hfr s2_1 fs2_1.1 (by rw [fs2_1.2]; rfl)).trans eq_49
              have eq_464 := (hfr s3_1 fs3_1.1 (by rw [fs3_1.2]; rfl)).trans eq_50
              have eq_465 := (hfr s4_1 fs4_1.1 (by rw [fs4_1.2]; rfl)).trans eq_51
              have eq_466 := (hfr s5_1 fs5_1.1 (by rw [fs5_1.2]; rfl)).trans eq_52
              have eq_467 := (hfr s8_1 fs8_1.1 (by rw [fs8_1.2]; rfl)).trans eq_53
              have eq_468 := (hfr s9_1 fs9_1.1 (by rw [fs9_1.2]; rfl)).trans eq_54
              have eq_469 := (hfr s10_1 fs10_1.1 (by rw [fs10_1.2]; rfl)).trans eq_55
              obtain ⟨hKQ, hFD⟩ := hFN
              rcases hFD with ⟨lf, hTD, hFL, hjl, hTS⟩ | ⟨h18, hTD⟩
              · (refine hPI.a10E hg0 ?_; intro s1_470 s2_470 s3_470 s4_470 s5_470 s6_470 s7_470 pa_470 lm_470 s8_470 s9_470 s10_470 fm_470 s11_470 nm_470 s12_470 s13_470 s14_470 rm_470 s15_470 s16_470 s17_470 s18_470 e_470 fs1_470 fs2_470 fs3_470 fs4_470 fs5_470 fs6_470 fs7_470 flm_470 fs8_470 fs9_470 fs10_470 ffm_470 fs11_470 fnm_470 fs12_470 fs13_470 fs14_470 frm_470 fs15_470 fs16_470 fs17_470 fs18_470)
                obtain ⟨k_470, hk_470⟩ := va_plg hg0.1 e_470
                obtain rfl : s1_1 = s1_470 := hU _ _ fs1_1.1 fs1_470.1 (fs1_1.2.trans fs1_470.2.symm)
                obtain rfl : s2_1 = s2_470 := hU _ _ fs2_1.1 fs2_470.1 (fs2_1.2.trans fs2_470.2.symm)
                obtain rfl : s3_1 = s3_470 := hU _ _ fs3_1.1 fs3_470.1 (fs3_1.2.trans fs3_470.2.symm)
                obtain rfl : s4_1 = s4_470 := hU _ _ fs4_1.1 fs4_470.1 (fs4_1.2.trans fs4_470.2.symm)
                obtain rfl : s5_1 = s5_470 := hU _ _ fs5_1.1 fs5_470.1 (fs5_1.2.trans fs5_470.2.symm)
                obtain rfl : s6_1 = s6_470 := hU _ _ fs6_1.1 fs6_470.1 (fs6_1.2.trans fs6_470.2.symm)
                obtain rfl : s7_1 = s7_470 := hU _ _ fs7_1.1 fs7_470.1 (fs7_1.2.trans fs7_470.2.symm)
                obtain rfl : s8_1 = s8_470 := hU _ _ fs8_1.1 fs8_470.1 (fs8_1.2.trans fs8_470.2.symm)
                obtain rfl : s9_1 = s9_470 := hU _ _ fs9_1.1 fs9_470.1 (fs9_1.2.trans fs9_470.2.symm)
                obtain rfl : s10_1 = s10_470 := hU _ _ fs10_1.1 fs10_470.1 (fs10_1.2.trans fs10_470.2.symm)
                obtain rfl : s11_1 = s11_470 := hU _ _ fs11_1.1 fs11_470.1 (fs11_1.2.trans fs11_470.2.symm)
                obtain rfl : s12_1 = s12_470 := hU _ _ fs12_1.1 fs12_470.1 (fs12_1.2.trans fs12_470.2.symm)
                obtain rfl : s13_1 = s13_470 := hU _ _ fs13_1.1 fs13_470.1 (fs13_1.2.trans fs13_470.2.symm)
                obtain rfl : s14_1 = s14_470 := hU _ _ fs14_1.1 fs14_470.1 (fs14_1.2.trans fs14_470.2.symm)
                obtain rfl : s15_1 = s15_470 := hU _ _ fs15_1.1 fs15_470.1 (fs15_1.2.trans fs15_470.2.symm)
                obtain rfl : s16_1 = s16_470 := hU _ _ fs16_1.1 fs16_470.1 (fs16_1.2.trans fs16_470.2.symm)
                obtain rfl : s17_1 = s17_470 := hU _ _ fs17_1.1 fs17_470.1 (fs17_1.2.trans fs17_470.2.symm)
                obtain rfl : s18_1 = s18_470 := hU _ _ fs18_1.1 fs18_470.1 (fs18_1.2.trans fs18_470.2.symm)
                obtain ⟨gF, hr21, hfm, hat⟩ := id hFL
                have eg_471 := hr21 s11_1 fs11_1
                have fg_471 := (hPI.a21 fs11_1).of eg_471
                rw [show cI (fl202 g0) 12 = fm_470 from by rw [e_470]; rfl] at hfm
                have hF : fm_470.toInt = ((lf).length : Int) ∧ ∀ i t, (lf)[i]? = some t → (fun i => some (Int32.toNatClampNeg (gF i))) i = some t := ⟨hfm, hat⟩
                refine lv_iload_n hx hb dX3_find_202 rfl (lv_at hl 0 rfl) ?_
                refine lv_aload_n hx hb dX3_find_203 rfl (lv_at hl 1 rfl) ?_
                obtain ⟨k_472, hk_472⟩ := va_plg hg0.1 e_470
                refine va_get (D := (dC, dI)) (ci := 3) (v := .int fm_470) (C := RX3) (T := TX3) (N := 23) hx hb hts iX3_ hown hK hP k_472 hk_472 rfl 12 (by decide) (hts (.fieldLink RX3 167 "FieldLeavesModel" "foundMany" "I") (by decide +kernel)) (fun _ h9 => h9) rfl dX3_find_204 ?_
                refine lv_icmp_ge (tgt := 234) hx hb dX3_find_207 (by decide) (fun c_473 => ?_) (fun c_473 => ?_)
                · have c_473 := Int32.le_iff_toInt_le.mp c_473
                  refine lv_aload_n hx hb dX3_find_234 rfl (lv_at hl 1 rfl) ?_
                  obtain ⟨k_474, hk_474⟩ := va_plg hg0.1 e_470
                  refine va_get (D := (dC, dI)) (ci := 3) (v := .int rm_470) (C := RX3) (T := TX3) (N := 23) hx hb hts iX3_ hown hK hP k_474 hk_474 rfl 18 (by decide) (hts (.fieldLink RX3 163 "FieldLeavesModel" "isRoom" "Z") (by decide +kernel)) (fun _ h9 => h9) rfl dX3_find_235 ?_
                  rcases frm_470 with rfl | rfl
                  · have hjx : Int32.toNatClampNeg j2 = lf.length := by have h7 := clamp_int (i := j2) (by omega); omega
                    subst eQ
                    exact W.zret (v := 1) hx hb hr rfl (fun t ht hW => ⟨⟨1, (), rfl, Or.inl ⟨rfl, by rw [tlS_some hTD (by have h8 := (hTS.room.1 (show cI (fl202 g0) 18 = 1 from by rw [e_470]; rfl)).2; rw [hjx] at h8; exact h8)]; exact fun h9 => by cases h9⟩, fl202, hPI, ⟨(FR.tr hfrE24 (FR.tr hfrE202 hfr (fun _ h => h)) (fun _ h => h)), hKQ, fun lz h9 => by rw [tlS_some hTD (by have h8 := (hTS.room.1 (show cI (fl202 g0) 18 = 1 from by rw [e_470]; rfl)).2; rw [hjx] at h8; exact h8)] at h9; cases h9; have h8 := (hTS.room.1 (show cI (fl202 g0) 18 = 1 from by rw [e_470]; rfl)).1; rw [hjx] at h8; exact h8⟩, by rw [ht]; exact hP, hD⟩, hS.F ht⟩) hS.2.2 dX3_find_238
                  · subst eQ
                    exact W.zret (v := 0) hx hb hr rfl (fun t ht hW => ⟨⟨0, (), rfl, Or.inr ⟨rfl, tlS_none2 hTD (Nat.lt_of_lt_of_le (hTS.room.2 (show cI (fl202 g0) 18 = 0 from by rw [e_470]; rfl)) (lall_mono (by have h7 := clamp_int (i := j2) (by omega); omega)))⟩, fl202, hPI, ⟨(FR.tr hfrE24 (FR.tr hfrE202 hfr (fun _ h => h)) (fun _ h => h)), hKQ, fun lz h9 => by rw [tlS_none2 hTD (Nat.lt_of_lt_of_le (hTS.room.2 (show cI (fl202 g0) 18 = 0 from by rw [e_470]; rfl)) (lall_mono (by have h7 := clamp_int (i := j2) (by omega); omega)))] at h9; cases h9⟩, by rw [ht]; exact hP, hD⟩, hS.F ht⟩) hS.2.2 dX3_find_238
                · have c_473 := mt Int32.le_iff_toInt_le.mpr c_473
                  refine lv_aload_n hx hb dX3_find_210 rfl (lv_at hl 1 rfl) ?_
                  obtain ⟨k_475, hk_475⟩ := va_plg hg0.1 e_470
                  refine va_get (D := (dC, dI)) (ci := 3) (v := .int rm_470) (C := RX3) (T := TX3) (N := 23) hx hb hts iX3_ hown hK hP k_475 hk_475 rfl 18 (by decide) (hts (.fieldLink RX3 163 "FieldLeavesModel" "isRoom" "Z") (by decide +kernel)) (fun _ h9 => h9) rfl dX3_find_211 ?_
                  rcases frm_470 with rfl | rfl
                  · refine lv_if_eq (tgt := 234) hx hb dX3_find_214 (by decide) (fun c9 => absurd c9 (by decide)) (fun _ => ?_)
                    refine lv_aload_n hx hb dX3_find_217 rfl (lv_at hl 1 rfl) ?_
                    refine lv_iload_n hx hb dX3_find_218 rfl (lv_at hl 0 rfl) ?_
                    refine lv_aload_n hx hb dX3_find_219 rfl (lv_at hl 1 rfl) ?_
                    obtain ⟨k_476, hk_476⟩ := va_plg hg0.1 e_470
                    refine va_get (D := (dC, dI)) (ci := 3) (v := .ref s11_1) (C := RX3) (T := TX3) (N := 23) hx hb hts iX3_ hown hK hP k_476 hk_476 rfl 13 (by decide) (hts (.fieldLink RX3 44 "FieldLeavesModel" "found" "[I") (by decide +kernel)) (fun _ h9 => h9) rfl dX3_find_220 ?_
                    refine lv_iload_n hx hb dX3_find_223 rfl (lv_at hl 0 rfl) ?_
                    obtain ⟨k_477, hk_477⟩ := va_plg fs11_1.1 eg_471
                    have h_477 : vp_in j2 25 := (vp_in_iff.mpr (by constructor <;> omega))
                    refine va_iald hx hb hK hP k_477 0 hk_477 rfl h_477 dX3_find_224 ?_
                    refine lv_topi (fun z_477 ez_477 => ?_)
                    have fz_477 := fg_471 _ (vp_lt h_477)
                    rw [← ez_477] at fz_477
                    have hdez_477 := congrArg Int32.toInt ez_477
                    have hat9 := fs_at hF (i := j2) (by omega) (by omega) (show (fun i => some (Int32.toNatClampNeg (gF i))) (Int32.toNatClampNeg j2) = some (Int32.toNatClampNeg z_477) from by rw [ez_477])
                    have hRV9 := hRV.kq (FR.tr hfrE24 (FR.tr hfrE202 hfr (fun _ h => h)) (fun _ h => h)) ⟨rfl, rfl, rfl, rfl, rfl, rfl, rfl, rfl⟩ hKQ
                    have hFc := pl_free hD hS hA
                    obtain ⟨k_478, hk_478⟩ := va_plg hg0.1 e_470
                    refine va_callv (va_runV (b := g0) (As := [.int j2, .int z_477]) (rest := []) ⟨hx, hb, hml, hown, hts⟩ (v_X3_tellObject l dC dI TT H.size kI kJ kZ K L fl202 hPI g0 hg0 j2 z_477 (by constructor <;> omega) (by constructor <;> omega) hU fS fC fF fR fW lo ld lv lm_1 pa_1 hRV9 lf hFL (lall (tls (-4) fC (r_vl fC fF) (r_lk fC fF) (r_rw fC fR fW) lf) (Int32.toNatClampNeg j2)) hTS) (cwV 2 hts gX3_find_X3_tellObject rfl rfl rfl (by decide +kernel) ⟨Nat.le_of_ble_eq_true rfl, Nat.le_of_ble_eq_true rfl⟩) ⟨pr_blind, va_recv hK hP (ci := 3) rfl hk_478, (pr_S (ws := va_pl L fl202) (wA := va_pl L fl202) (tys := [(kI, .int), (kJ, .long), (kZ, .boolean)]) hP hK (hD.weaken (fun _ _ _ _ => trivial)) hst hS hFc).2⟩ rfl rfl hl.1 rfl (lv_room (Nat.le_of_ble_eq_true rfl)) dX3_find_225 ⟨Nat.le_of_ble_eq_true rfl, Nat.le_of_ble_eq_true rfl⟩) hS (fun q _ h => hFc q h) hFc (fun u t H1 locs ht hvm hw hB hz1 hk1 hS => ?_)
                    obtain ⟨f_480, hPI, hrel, hP, hD9⟩ := hB
                    rw [ht] at hP
                    have hD := hD9.weaken (fun _ q _ h => hFc q.1 h)
                    obtain ⟨hrelF, hrel⟩ := hrel
                    have eq_481 := (hrelF s1_1 fs1_1.1 (by rw [fs1_1.2]; rfl)).trans eq_462
                    have eq_482 := (hrelF s2_1 fs2_1.1 (by rw [fs2_1.2]; rfl)).trans eq_463
                    have eq_483 := (hrelF s3_1 fs3_1.1 (by rw [fs3_1.2]; rfl)).trans eq_464
                    have eq_484 := (hrelF s4_1 fs4_1.1 (by rw [fs4_1.2]; rfl)).trans eq_465
                    have eq_485 := (hrelF s5_1 fs5_1.1 (by rw [fs5_1.2]; rfl)).trans eq_466
                    have eq_486 := (hrelF s8_1 fs8_1.1 (by rw [fs8_1.2]; rfl)).trans eq_467
                    have eq_487 := (hrelF s9_1 fs9_1.1 (by rw [fs9_1.2]; rfl)).trans eq_468
                    have eq_488 := (hrelF s10_1 fs10_1.1 (by rw [fs10_1.2]; rfl)).trans eq_469
                    have eq_489 := (hrelF s11_1 fs11_1.1 (by rw [fs11_1.2]; rfl)).trans eg_471
                    have hfr := FR.tr hfr hrelF (sK_sub (by decide))
                    generalize H1 = H at hP hS ⊢
                    obtain ⟨hKQ1, hTS⟩ := hrel
                    have hKQ := hKQ.tr hKQ1.1
                    have hFL := hFL.kq hrelF rfl hKQ1
                    obtain ⟨i_490, ei_490⟩ : ∃ y : Int32, y = j2 + 1 := ⟨_, rfl⟩
                    refine lv_iinc (v := i_490) (lv' := [(2, .int i_490), (0, .ref g0), (1, .int o0)]) hx hb dX3_find_228 hl (k := 0) rfl (by rw [ei_490]; rfl) (by decide) rfl (fun ls hl => ?_)
                    have ki_490 := inc_toInt ei_490 (by omega)
                    refine lv_goto (tgt := 202) hx hb dX3_find_231 (by decide) ?_
                    (refine hPI.a10E hg0 ?_; intro s1_491 s2_491 s3_491 s4_491 s5_491 s6_491 s7_491 pa_491 lm_491 s8_491 s9_491 s10_491 fm_491 s11_491 nm_491 s12_491 s13_491 s14_491 rm_491 s15_491 s16_491 s17_491 s18_491 e_491 fs1_491 fs2_491 fs3_491 fs4_491 fs5_491 fs6_491 fs7_491 flm_491 fs8_491 fs9_491 fs10_491 ffm_491 fs11_491 fnm_491 fs12_491 fs13_491 fs14_491 frm_491 fs15_491 fs16_491 fs17_491 fs18_491)
                    obtain ⟨k_491, hk_491⟩ := va_plg hg0.1 e_491
                    obtain rfl : s1_1 = s1_491 := hU _ _ fs1_1.1 fs1_491.1 (fs1_1.2.trans fs1_491.2.symm)
                    obtain rfl : s2_1 = s2_491 := hU _ _ fs2_1.1 fs2_491.1 (fs2_1.2.trans fs2_491.2.symm)
                    obtain rfl : s3_1 = s3_491 := hU _ _ fs3_1.1 fs3_491.1 (fs3_1.2.trans fs3_491.2.symm)
                    obtain rfl : s4_1 = s4_491 := hU _ _ fs4_1.1 fs4_491.1 (fs4_1.2.trans fs4_491.2.symm)
                    obtain rfl : s5_1 = s5_491 := hU _ _ fs5_1.1 fs5_491.1 (fs5_1.2.trans fs5_491.2.symm)
                    obtain rfl : s6_1 = s6_491 := hU _ _ fs6_1.1 fs6_491.1 (fs6_1.2.trans fs6_491.2.symm)
                    obtain rfl : s7_1 = s7_491 := hU _ _ fs7_1.1 fs7_491.1 (fs7_1.2.trans fs7_491.2.symm)
                    obtain rfl : s8_1 = s8_491 := hU _ _ fs8_1.1 fs8_491.1 (fs8_1.2.trans fs8_491.2.symm)
                    obtain rfl : s9_1 = s9_491 := hU _ _ fs9_1.1 fs9_491.1 (fs9_1.2.trans fs9_491.2.symm)
                    obtain rfl : s10_1 = s10_491 := hU _ _ fs10_1.1 fs10_491.1 (fs10_1.2.trans fs10_491.2.symm)
                    obtain rfl : s11_1 = s11_491 := hU _ _ fs11_1.1 fs11_491.1 (fs11_1.2.trans fs11_491.2.symm)
                    obtain rfl : s12_1 = s12_491 := hU _ _ fs12_1.1 fs12_491.1 (fs12_1.2.trans fs12_491.2.symm)
                    obtain rfl : s13_1 = s13_491 := hU _ _ fs13_1.1 fs13_491.1 (fs13_1.2.trans fs13_491.2.symm)
                    obtain rfl : s14_1 = s14_491 := hU _ _ fs14_1.1 fs14_491.1 (fs14_1.2.trans fs14_491.2.symm)
                    obtain rfl : s15_1 = s15_491 := hU _ _ fs15_1.1 fs15_491.1 (fs15_1.2.trans fs15_491.2.symm)
                    obtain rfl : s16_1 = s16_491 := hU _ _ fs16_1.1 fs16_491.1 (fs16_1.2.trans fs16_491.2.symm)
                    obtain rfl : s17_1 = s17_491 := hU _ _ fs17_1.1 fs17_491.1 (fs17_1.2.trans fs17_491.2.symm)
                    obtain rfl : s18_1 = s18_491 := hU _ _ fs18_1.1 fs18_491.1 (fs18_1.2.trans fs18_491.2.symm)
                    exact ih_202 i_490 f_480 _ _ _  (by omega) (by omega) ⟨hfr, ⟨hKQ, Or.inl ⟨lf, hTD, hFL, by omega, (by rw [lall_step (by omega) ki_490, tls_at (by omega), getD_is hat9]; exact hTS)⟩⟩⟩ hPI hP hD hS (lv_sub hl [0, 1, 2] rfl)
                  · refine lv_if_eq (tgt := 234) hx hb dX3_find_214 (by decide) (fun _ => ?_) (fun c9 => absurd c9 (by decide))
                    refine lv_aload_n hx hb dX3_find_234 rfl (lv_at hl 1 rfl) ?_
                    obtain ⟨k_492, hk_492⟩ := va_plg hg0.1 e_470
                    refine va_get (D := (dC, dI)) (ci := 3) (v := .int 0) (C := RX3) (T := TX3) (N := 23) hx hb hts iX3_ hown hK hP k_492 hk_492 rfl 18 (by decide) (hts (.fieldLink RX3 163 "FieldLeavesModel" "isRoom" "Z") (by decide +kernel)) (fun _ h9 => h9) rfl dX3_find_235 ?_
                    subst eQ
                    exact W.zret (v := 0) hx hb hr rfl (fun t ht hW => ⟨⟨0, (), rfl, Or.inr ⟨rfl, tlS_none2 hTD (Nat.lt_of_lt_of_le (hTS.room.2 (show cI (fl202 g0) 18 = 0 from by rw [e_470]; rfl)) (lall_mono (by have h7 := clamp_int (i := j2) (by omega); omega)))⟩, fl202, hPI, ⟨(FR.tr hfrE24 (FR.tr hfrE202 hfr (fun _ h => h)) (fun _ h => h)), hKQ, fun lz h9 => by rw [tlS_none2 hTD (Nat.lt_of_lt_of_le (hTS.room.2 (show cI (fl202 g0) 18 = 0 from by rw [e_470]; rfl)) (lall_mono (by have h7 := clamp_int (i := j2) (by omega); omega)))] at h9; cases h9⟩, by rw [ht]; exact hP, hD⟩, hS.F ht⟩) hS.2.2 dX3_find_238
              · (refine hPI.a10E hg0 ?_; intro s1_493 s2_493 s3_493 s4_493 s5_493 s6_493 s7_493 pa_493 lm_493 s8_493 s9_493 s10_493 fm_493 s11_493 nm_493 s12_493 s13_493 s14_493 rm_493 s15_493 s16_493 s17_493 s18_493 e_493 fs1_493 fs2_493 fs3_493 fs4_493 fs5_493 fs6_493 fs7_493 flm_493 fs8_493 fs9_493 fs10_493 ffm_493 fs11_493 fnm_493 fs12_493 fs13_493 fs14_493 frm_493 fs15_493 fs16_493 fs17_493 fs18_493)
                obtain ⟨k_493, hk_493⟩ := va_plg hg0.1 e_493
                obtain rfl : s1_1 = s1_493 := hU _ _ fs1_1.1 fs1_493.1 (fs1_1.2.trans fs1_493.2.symm)
                obtain rfl : s2_1 = s2_493 := hU _ _ fs2_1.1 fs2_493.1 (fs2_1.2.trans fs2_493.2.symm)
                obtain rfl : s3_1 = s3_493 := hU _ _ fs3_1.1 fs3_493.1 (fs3_1.2.trans fs3_493.2.symm)
                obtain rfl : s4_1 = s4_493 := hU _ _ fs4_1.1 fs4_493.1 (fs4_1.2.trans fs4_493.2.symm)
                obtain rfl : s5_1 = s5_493 := hU _ _ fs5_1.1 fs5_493.1 (fs5_1.2.trans fs5_493.2.symm)
                obtain rfl : s6_1 = s6_493 := hU _ _ fs6_1.1 fs6_493.1 (fs6_1.2.trans fs6_493.2.symm)
                obtain rfl : s7_1 = s7_493 := hU _ _ fs7_1.1 fs7_493.1 (fs7_1.2.trans fs7_493.2.symm)
                obtain rfl : s8_1 = s8_493 := hU _ _ fs8_1.1 fs8_493.1 (fs8_1.2.trans fs8_493.2.symm)
                obtain rfl : s9_1 = s9_493 := hU _ _ fs9_1.1 fs9_493.1 (fs9_1.2.trans fs9_493.2.symm)
                obtain rfl : s10_1 = s10_493 := hU _ _ fs10_1.1 fs10_493.1 (fs10_1.2.trans fs10_493.2.symm)
                obtain rfl : s11_1 = s11_493 := hU _ _ fs11_1.1 fs11_493.1 (fs11_1.2.trans fs11_493.2.symm)
                obtain rfl : s12_1 = s12_493 := hU _ _ fs12_1.1 fs12_493.1 (fs12_1.2.trans fs12_493.2.symm)
                obtain rfl : s13_1 = s13_493 := hU _ _ fs13_1.1 fs13_493.1 (fs13_1.2.trans fs13_493.2.symm)
                obtain rfl : s14_1 = s14_493 := hU _ _ fs14_1.1 fs14_493.1 (fs14_1.2.trans fs14_493.2.symm)
                obtain rfl : s15_1 = s15_493 := hU _ _ fs15_1.1 fs15_493.1 (fs15_1.2.trans fs15_493.2.symm)
                obtain rfl : s16_1 = s16_493 := hU _ _ fs16_1.1 fs16_493.1 (fs16_1.2.trans fs16_493.2.symm)
                obtain rfl : s17_1 = s17_493 := hU _ _ fs17_1.1 fs17_493.1 (fs17_1.2.trans fs17_493.2.symm)
                obtain rfl : s18_1 = s18_493 := hU _ _ fs18_1.1 fs18_493.1 (fs18_1.2.trans fs18_493.2.symm)
                rw [show cI (fl202 g0) 18 = rm_493 from by rw [e_493]; rfl] at h18
                subst h18
                refine lv_iload_n hx hb dX3_find_202 rfl (lv_at hl 0 rfl) ?_
                refine lv_aload_n hx hb dX3_find_203 rfl (lv_at hl 1 rfl) ?_
                obtain ⟨k_494, hk_494⟩ := va_plg hg0.1 e_493
                refine va_get (D := (dC, dI)) (ci := 3) (v := .int fm_493) (C := RX3) (T := TX3) (N := 23) hx hb hts iX3_ hown hK hP k_494 hk_494 rfl 12 (by decide) (hts (.fieldLink RX3 167 "FieldLeavesModel" "foundMany" "I") (by decide +kernel)) (fun _ h9 => h9) rfl dX3_find_204 ?_
                refine lv_icmp_ge (tgt := 234) hx hb dX3_find_207 (by decide) (fun c_495 => ?_) (fun c_495 => ?_)
                · have c_495 := Int32.le_iff_toInt_le.mp c_495
                  refine lv_aload_n hx hb dX3_find_234 rfl (lv_at hl 1 rfl) ?_
                  obtain ⟨k_496, hk_496⟩ := va_plg hg0.1 e_493
                  refine va_get (D := (dC, dI)) (ci := 3) (v := .int 0) (C := RX3) (T := TX3) (N := 23) hx hb hts iX3_ hown hK hP k_496 hk_496 rfl 18 (by decide) (hts (.fieldLink RX3 163 "FieldLeavesModel" "isRoom" "Z") (by decide +kernel)) (fun _ h9 => h9) rfl dX3_find_235 ?_
                  subst eQ
                  exact W.zret (v := 0) hx hb hr rfl (fun t ht hW => ⟨⟨0, (), rfl, Or.inr ⟨rfl, tlS_none1 (by rw [hTD]; exact fun h9 => by cases h9)⟩, fl202, hPI, ⟨(FR.tr hfrE24 (FR.tr hfrE202 hfr (fun _ h => h)) (fun _ h => h)), hKQ, fun lz h9 => by rw [tlS_none1 (by rw [hTD]; exact fun h9 => by cases h9)] at h9; cases h9⟩, by rw [ht]; exact hP, hD⟩, hS.F ht⟩) hS.2.2 dX3_find_238
                · have c_495 := mt Int32.le_iff_toInt_le.mpr c_495
                  refine lv_aload_n hx hb dX3_find_210 rfl (lv_at hl 1 rfl) ?_
                  obtain ⟨k_497, hk_497⟩ := va_plg hg0.1 e_493
                  refine va_get (D := (dC, dI)) (ci := 3) (v := .int 0) (C := RX3) (T := TX3) (N := 23) hx hb hts iX3_ hown hK hP k_497 hk_497 rfl 18 (by decide) (hts (.fieldLink RX3 163 "FieldLeavesModel" "isRoom" "Z") (by decide +kernel)) (fun _ h9 => h9) rfl dX3_find_211 ?_
                  refine lv_if_eq (tgt := 234) hx hb dX3_find_214 (by decide) (fun _ => ?_) (fun c9 => absurd c9 (by decide))
                  refine lv_aload_n hx hb dX3_find_234 rfl (lv_at hl 1 rfl) ?_
                  obtain ⟨k_498, hk_498⟩ := va_plg hg0.1 e_493
                  refine va_get (D := (dC, dI)) (ci := 3) (v := .int 0) (C := RX3) (T := TX3) (N := 23) hx hb hts iX3_ hown hK hP k_498 hk_498 rfl 18 (by decide) (hts (.fieldLink RX3 163 "FieldLeavesModel" "isRoom" "Z") (by decide +kernel)) (fun _ h9 => h9) rfl dX3_find_235 ?_
                  subst eQ
                  exact W.zret (v := 0) hx hb hr rfl (fun t ht hW => ⟨⟨0, (), rfl, Or.inr ⟨rfl, tlS_none1 (by rw [hTD]; exact fun h9 => by cases h9)⟩, fl202, hPI, ⟨(FR.tr hfrE24 (FR.tr hfrE202 hfr (fun _ h => h)) (fun _ h => h)), hKQ, fun lz h9 => by rw [tlS_none1 (by rw [hTD]; exact fun h9 => by cases h9)] at h9; cases h9⟩, by rw [ht]; exact hP, hD⟩, hS.F ht⟩) hS.2.2 dX3_find_238
          exact loop_202 25 0 fl _ _ _  (by omega) (by omega) ⟨FR.rf, ⟨(show KQ2 f fl g0 from ⟨(by rw [e_56]; exact hk7), (by rw [e_56]; exact hk8)⟩), Or.inr ⟨(show cI (fl g0) 18 = 0 from by rw [e_56]; rfl), hfd⟩⟩⟩ hPI hP hD hS hl
        · have c_461 := mt Int32.le_iff_toInt_le.mpr c_461
          refine lv_aload_n hx hb dX3_find_32 rfl (lv_at hl 1 rfl) ?_
          obtain ⟨k_499, hk_499⟩ := va_plg hg0.1 e_56
          refine va_get (D := (dC, dI)) (ci := 3) (v := .int 0) (C := RX3) (T := TX3) (N := 23) hx hb hts iX3_ hown hK hP k_499 hk_499 rfl 18 (by decide) (hts (.fieldLink RX3 163 "FieldLeavesModel" "isRoom" "Z") (by decide +kernel)) (fun _ h9 => h9) rfl dX3_find_33 ?_
          refine lv_if_eq (tgt := 200) hx hb dX3_find_36 (by decide) (fun _ => ?_) (fun c9 => absurd c9 (by decide))
          refine lv_iconst (v := 0) hx hb dX3_find_200 (by decide) ?_
          refine lv_istore_n (lv' := [(2, .int 0), (0, .ref g0), (1, .int o0)]) hx hb dX3_find_201 rfl hl (by decide) rfl (fun ls hl => ?_)
          have hfrE202 := hfr
          have loop_202 : ∀ (n : Nat) (j2 : Int32)   (fl202 : Nat → va_E) (H : Heap) (locs : List Loc) (ls : Array Slot), (0 ≤ j2.toInt ∧ j2.toInt ≤ 24) → (24 - j2.toInt).toNat < n → (FR (sK [10, 21, 22, 23, 24]) K L fl fl202 ∧ (KQ2 f fl202 g0 ∧ ((∃ lf, (fd (r_lk fC fF) 25 0 [(Int32.toNatClampNeg o0)]) = some lf ∧ FLr kI K L fl202 g0 lf ∧ j2.toInt ≤ (lf.length : Int) ∧ TSr kI kJ K L fl202 g0 (lall (tls (-4) fC (r_vl fC fF) (r_lk fC fF) (r_rw fC fR fW) lf) (Int32.toNatClampNeg j2))) ∨ (cI (fl202 g0) 18 = 0 ∧ (fd (r_lk fC fF) 25 0 [(Int32.toNatClampNeg o0)]) = none)))) → PR kI kJ kZ K L fl202 → va_P (dC, dI) vwCl (va_pl L fl202) H → va_D A (va_pl L fl202) → va_S A s.heap H locs → lv_has ls 6 [(2, .int j2), (0, .ref g0), (1, .int o0)] → W p l e (headSpec wsX3_find ({ frames := 2, cells := 0, slots := 0, locals := 50 } : Room)).room s m (([.ref g0, .int o0] : List Value).toArray) below meth c H locs 0 0 Q0 (F0 m 202 ls []) := by
            intro n
            induction n with
            | zero => intro j2 fl202 H locs ls  _ h9; exact absurd h9 (Nat.not_lt_zero _)
            | succ n ih_202 =>
              intro j2 fl202 H locs ls  hI hM hFN hPI hP hD hS hl
              obtain ⟨hfr, hFN⟩ := hFN
              have eq_500 := (hfr s1_1 fs1_1.1 (by rw [fs1_1.2]; rfl)).trans eq_48
              have eq_501 := (hfr s2_1 fs2_1.1 (by rw [fs2_1.2]; rfl)).trans eq_49
              have eq_502 := (hfr s3_1 fs3_1.1 (by rw [fs3_1.2]; rfl)).trans eq_50
              have eq_503 := (hfr s4_1 fs4_1.1 (by rw [fs4_1.2]; rfl)).trans eq_51
              have eq_504 := (hfr s5_1 fs5_1.1 (by rw [fs5_1.2]; rfl)).trans eq_52
              have eq_505 := (hfr s8_1 fs8_1.1 (by rw [fs8_1.2]; rfl)).trans eq_53
              have eq_506 := (hfr s9_1 fs9_1.1 (by rw [fs9_1.2]; rfl)).trans eq_54
              have eq_507 := (hfr s10_1 fs10_1.1 (by rw [fs10_1.2]; rfl)).trans eq_55
              obtain ⟨hKQ, hFD⟩ := hFN
              rcases hFD with ⟨lf, hTD, hFL, hjl, hTS⟩ | ⟨h18, hTD⟩
              · (refine hPI.a10E hg0 ?_; intro s1_508 s2_508 s3_508 s4_508 s5_508 s6_508 s7_508 pa_508 lm_508 s8_508 s9_508 s10_508 fm_508 s11_508 nm_508 s12_508 s13_508 s14_508 rm_508 s15_508 s16_508 s17_508 s18_508 e_508 fs1_508 fs2_508 fs3_508 fs4_508 fs5_508 fs6_508 fs7_508 flm_508 fs8_508 fs9_508 fs10_508 ffm_508 fs11_508 fnm_508 fs12_508 fs13_508 fs14_508 frm_508 fs15_508 fs16_508 fs17_508 fs18_508)
                obtain ⟨k_508, hk_508⟩ := va_plg hg0.1 e_508
                obtain rfl : s1_1 = s1_508 := hU _ _ fs1_1.1 fs1_508.1 (fs1_1.2.trans fs1_508.2.symm)
                obtain rfl : s2_1 = s2_508 := hU _ _ fs2_1.1 fs2_508.1 (fs2_1.2.trans fs2_508.2.symm)
                obtain rfl : s3_1 = s3_508 := hU _ _ fs3_1.1 fs3_508.1 (fs3_1.2.trans fs3_508.2.symm)
                obtain rfl : s4_1 = s4_508 := hU _ _ fs4_1.1 fs4_508.1 (fs4_1.2.trans fs4_508.2.symm)
                obtain rfl : s5_1 = s5_508 := hU _ _ fs5_1.1 fs5_508.1 (fs5_1.2.trans fs5_508.2.symm)
                obtain rfl : s6_1 = s6_508 := hU _ _ fs6_1.1 fs6_508.1 (fs6_1.2.trans fs6_508.2.symm)
                obtain rfl : s7_1 = s7_508 := hU _ _ fs7_1.1 fs7_508.1 (fs7_1.2.trans fs7_508.2.symm)
                obtain rfl : s8_1 = s8_508 := hU _ _ fs8_1.1 fs8_508.1 (fs8_1.2.trans fs8_508.2.symm)
                obtain rfl : s9_1 = s9_508 := hU _ _ fs9_1.1 fs9_508.1 (fs9_1.2.trans fs9_508.2.symm)
                obtain rfl : s10_1 = s10_508 := hU _ _ fs10_1.1 fs10_508.1 (fs10_1.2.trans fs10_508.2.symm)
                obtain rfl : s11_1 = s11_508 := hU _ _ fs11_1.1 fs11_508.1 (fs11_1.2.trans fs11_508.2.symm)
                obtain rfl : s12_1 = s12_508 := hU _ _ fs12_1.1 fs12_508.1 (fs12_1.2.trans fs12_508.2.symm)
                obtain rfl : s13_1 = s13_508 := hU _ _ fs13_1.1 fs13_508.1 (fs13_1.2.trans fs13_508.2.symm)
                obtain rfl : s14_1 = s14_508 := hU _ _ fs14_1.1 fs14_508.1 (fs14_1.2.trans fs14_508.2.symm)
                obtain rfl : s15_1 = s15_508 := hU _ _ fs15_1.1 fs15_508.1 (fs15_1.2.trans fs15_508.2.symm)
                obtain rfl : s16_1 = s16_508 := hU _ _ fs16_1.1 fs16_508.1 (fs16_1.2.trans fs16_508.2.symm)
                obtain rfl : s17_1 = s17_508 := hU _ _ fs17_1.1 fs17_508.1 (fs17_1.2.trans fs17_508.2.symm)
                obtain rfl : s18_1 = s18_508 := hU _ _ fs18_1.1 fs18_508.1 (fs18_1.2.trans fs18_508.2.symm)
                obtain ⟨gF, hr21, hfm, hat⟩ := id hFL
                have eg_509 := hr21 s11_1 fs11_1
                have fg_509 := (hPI.a21 fs11_1).of eg_509
                rw [show cI (fl202 g0) 12 = fm_508 from by rw [e_508]; rfl] at hfm
                have hF : fm_508.toInt = ((lf).length : Int) ∧ ∀ i t, (lf)[i]? = some t → (fun i => some (Int32.toNatClampNeg (gF i))) i = some t := ⟨hfm, hat⟩
                refine lv_iload_n hx hb dX3_find_202 rfl (lv_at hl 0 rfl) ?_
                refine lv_aload_n hx hb dX3_find_203 rfl (lv_at hl 1 rfl) ?_
                obtain ⟨k_510, hk_510⟩ := va_plg hg0.1 e_508
                refine va_get (D := (dC, dI)) (ci := 3) (v := .int fm_508) (C := RX3) (T := TX3) (N := 23) hx hb hts iX3_ hown hK hP k_510 hk_510 rfl 12 (by decide) (hts (.fieldLink RX3 167 "FieldLeavesModel" "foundMany" "I") (by decide +kernel)) (fun _ h9 => h9) rfl dX3_find_204 ?_
                refine lv_icmp_ge (tgt := 234) hx hb dX3_find_207 (by decide) (fun c_511 => ?_) (fun c_511 => ?_)
                · have c_511 := Int32.le_iff_toInt_le.mp c_511
                  refine lv_aload_n hx hb dX3_find_234 rfl (lv_at hl 1 rfl) ?_
                  obtain ⟨k_512, hk_512⟩ := va_plg hg0.1 e_508
                  refine va_get (D := (dC, dI)) (ci := 3) (v := .int rm_508) (C := RX3) (T := TX3) (N := 23) hx hb hts iX3_ hown hK hP k_512 hk_512 rfl 18 (by decide) (hts (.fieldLink RX3 163 "FieldLeavesModel" "isRoom" "Z") (by decide +kernel)) (fun _ h9 => h9) rfl dX3_find_235 ?_
                  rcases frm_508 with rfl | rfl
                  · have hjx : Int32.toNatClampNeg j2 = lf.length := by have h7 := clamp_int (i := j2) (by omega); omega
                    subst eQ
                    exact W.zret (v := 1) hx hb hr rfl (fun t ht hW => ⟨⟨1, (), rfl, Or.inl ⟨rfl, by rw [tlS_some hTD (by have h8 := (hTS.room.1 (show cI (fl202 g0) 18 = 1 from by rw [e_508]; rfl)).2; rw [hjx] at h8; exact h8)]; exact fun h9 => by cases h9⟩, fl202, hPI, ⟨(FR.tr hfrE24 (FR.tr hfrE202 hfr (fun _ h => h)) (fun _ h => h)), hKQ, fun lz h9 => by rw [tlS_some hTD (by have h8 := (hTS.room.1 (show cI (fl202 g0) 18 = 1 from by rw [e_508]; rfl)).2; rw [hjx] at h8; exact h8)] at h9; cases h9; have h8 := (hTS.room.1 (show cI (fl202 g0) 18 = 1 from by rw [e_508]; rfl)).1; rw [hjx] at h8; exact h8⟩, by rw [ht]; exact hP, hD⟩, hS.F ht⟩) hS.2.2 dX3_find_238
                  · subst eQ
                    exact W.zret (v := 0) hx hb hr rfl (fun t ht hW => ⟨⟨0, (), rfl, Or.inr ⟨rfl, tlS_none2 hTD (Nat.lt_of_lt_of_le (hTS.room.2 (show cI (fl202 g0) 18 = 0 from by rw [e_508]; rfl)) (lall_mono (by have h7 := clamp_int (i := j2) (by omega); omega)))⟩, fl202, hPI, ⟨(FR.tr hfrE24 (FR.tr hfrE202 hfr (fun _ h => h)) (fun _ h => h)), hKQ, fun lz h9 => by rw [tlS_none2 hTD (Nat.lt_of_lt_of_le (hTS.room.2 (show cI (fl202 g0) 18 = 0 from by rw [e_508]; rfl)) (lall_mono (by have h7 := clamp_int (i := j2) (by omega); omega)))] at h9; cases h9⟩, by rw [ht]; exact hP, hD⟩, hS.F ht⟩) hS.2.2 dX3_find_238
                · have c_511 := mt Int32.le_iff_toInt_le.mpr c_511
                  refine lv_aload_n hx hb dX3_find_210 rfl (lv_at hl 1 rfl) ?_
                  obtain ⟨k_513, hk_513⟩ := va_plg hg0.1 e_508
                  refine va_get (D := (dC, dI)) (ci := 3) (v := .int rm_508) (C := RX3) (T := TX3) (N := 23) hx hb hts iX3_ hown hK hP k_513 hk_513 rfl 18 (by decide) (hts (.fieldLink RX3 163 "FieldLeavesModel" "isRoom" "Z") (by decide +kernel)) (fun _ h9 => h9) rfl dX3_find_211 ?_
                  rcases frm_508 with rfl | rfl
                  · refine lv_if_eq (tgt := 234) hx hb dX3_find_214 (by decide) (fun c9 => absurd c9 (by decide)) (fun _ => ?_)
                    refine lv_aload_n hx hb dX3_find_217 rfl (lv_at hl 1 rfl) ?_
                    refine lv_iload_n hx hb dX3_find_218 rfl (lv_at hl 0 rfl) ?_
                    refine lv_aload_n hx hb dX3_find_219 rfl (lv_at hl 1 rfl) ?_
                    obtain ⟨k_514, hk_514⟩ := va_plg hg0.1 e_508
                    refine va_get (D := (dC, dI)) (ci := 3) (v := .ref s11_1) (C := RX3) (T := TX3) (N := 23) hx hb hts iX3_ hown hK hP k_514 hk_514 rfl 13 (by decide) (hts (.fieldLink RX3 44 "FieldLeavesModel" "found" "[I") (by decide +kernel)) (fun _ h9 => h9) rfl dX3_find_220 ?_
                    refine lv_iload_n hx hb dX3_find_223 rfl (lv_at hl 0 rfl) ?_
                    obtain ⟨k_515, hk_515⟩ := va_plg fs11_1.1 eg_509
                    have h_515 : vp_in j2 25 := (vp_in_iff.mpr (by constructor <;> omega))
                    refine va_iald hx hb hK hP k_515 0 hk_515 rfl h_515 dX3_find_224 ?_
                    refine lv_topi (fun z_515 ez_515 => ?_)
                    have fz_515 := fg_509 _ (vp_lt h_515)
                    rw [← ez_515] at fz_515
                    have hdez_515 := congrArg Int32.toInt ez_515
                    have hat9 := fs_at hF (i := j2) (by omega) (by omega) (show (fun i => some (Int32.toNatClampNeg (gF i))) (Int32.toNatClampNeg j2) = some (Int32.toNatClampNeg z_515) from by rw [ez_515])
                    have hRV9 := hRV.kq (FR.tr hfrE24 (FR.tr hfrE202 hfr (fun _ h => h)) (fun _ h => h)) ⟨rfl, rfl, rfl, rfl, rfl, rfl, rfl, rfl⟩ hKQ
                    have hFc := pl_free hD hS hA
                    obtain ⟨k_516, hk_516⟩ := va_plg hg0.1 e_508
                    refine va_callv (va_runV (b := g0) (As := [.int j2, .int z_515]) (rest := []) ⟨hx, hb, hml, hown, hts⟩ (v_X3_tellObject l dC dI TT H.size kI kJ kZ K L fl202 hPI g0 hg0 j2 z_515 (by constructor <;> omega) (by constructor <;> omega) hU fS fC fF fR fW lo ld lv lm_1 pa_1 hRV9 lf hFL (lall (tls (-4) fC (r_vl fC fF) (r_lk fC fF) (r_rw fC fR fW) lf) (Int32.toNatClampNeg j2)) hTS) (cwV 2 hts gX3_find_X3_tellObject rfl rfl rfl (by decide +kernel) ⟨Nat.le_of_ble_eq_true rfl, Nat.le_of_ble_eq_true rfl⟩) ⟨pr_blind, va_recv hK hP (ci := 3) rfl hk_516, (pr_S (ws := va_pl L fl202) (wA := va_pl L fl202) (tys := [(kI, .int), (kJ, .long), (kZ, .boolean)]) hP hK (hD.weaken (fun _ _ _ _ => trivial)) hst hS hFc).2⟩ rfl rfl hl.1 rfl (lv_room (Nat.le_of_ble_eq_true rfl)) dX3_find_225 ⟨Nat.le_of_ble_eq_true rfl, Nat.le_of_ble_eq_true rfl⟩) hS (fun q _ h => hFc q h) hFc (fun u t H1 locs ht hvm hw hB hz1 hk1 hS => ?_)
                    obtain ⟨f_518, hPI, hrel, hP, hD9⟩ := hB
                    rw [ht] at hP
                    have hD := hD9.weaken (fun _ q _ h => hFc q.1 h)
                    obtain ⟨hrelF, hrel⟩ := hrel
                    have eq_519 := (hrelF s1_1 fs1_1.1 (by rw [fs1_1.2]; rfl)).trans eq_500
                    have eq_520 := (hrelF s2_1 fs2_1.1 (by rw [fs2_1.2]; rfl)).trans eq_501
                    have eq_521 := (hrelF s3_1 fs3_1.1 (by rw [fs3_1.2]; rfl)).trans eq_502
                    have eq_522 := (hrelF s4_1 fs4_1.1 (by rw [fs4_1.2]; rfl)).trans eq_503
                    have eq_523 := (hrelF s5_1 fs5_1.1 (by rw [fs5_1.2]; rfl)).trans eq_504
                    have eq_524 := (hrelF s8_1 fs8_1.1 (by rw [fs8_1.2]; rfl)).trans eq_505
                    have eq_525 := (hrelF s9_1 fs9_1.1 (by rw [fs9_1.2]; rfl)).trans eq_506
                    have eq_526 := (hrelF s10_1 fs10_1.1 (by rw [fs10_1.2]; rfl)).trans eq_507
                    have eq_527 := (hrelF s11_1 fs11_1.1 (by rw [fs11_1.2]; rfl)).trans eg_509
                    have hfr := FR.tr hfr hrelF (sK_sub (by decide))
                    generalize H1 = H at hP hS ⊢
                    obtain ⟨hKQ1, hTS⟩ := hrel
                    have hKQ := hKQ.tr hKQ1.1
                    have hFL := hFL.kq hrelF rfl hKQ1
                    obtain ⟨i_528, ei_528⟩ : ∃ y : Int32, y = j2 + 1 := ⟨_, rfl⟩
                    refine lv_iinc (v := i_528) (lv' := [(2, .int i_528), (0, .ref g0), (1, .int o0)]) hx hb dX3_find_228 hl (k := 0) rfl (by rw [ei_528]; rfl) (by decide) rfl (fun ls hl => ?_)
                    have ki_528 := inc_toInt ei_528 (by omega)
                    refine lv_goto (tgt := 202) hx hb dX3_find_231 (by decide) ?_
                    (refine hPI.a10E hg0 ?_; intro s1_529 s2_529 s3_529 s4_529 s5_529 s6_529 s7_529 pa_529 lm_529 s8_529 s9_529 s10_529 fm_529 s11_529 nm_529 s12_529 s13_529 s14_529 rm_529 s15_529 s16_529 s17_529 s18_529 e_529 fs1_529 fs2_529 fs3_529 fs4_529 fs5_529 fs6_529 fs7_529 flm_529 fs8_529 fs9_529 fs10_529 ffm_529 fs11_529 fnm_529 fs12_529 fs13_529 fs14_529 frm_529 fs15_529 fs16_529 fs17_529 fs18_529)
                    obtain ⟨k_529, hk_529⟩ := va_plg hg0.1 e_529
                    obtain rfl : s1_1 = s1_529 := hU _ _ fs1_1.1 fs1_529.1 (fs1_1.2.trans fs1_529.2.symm)
                    obtain rfl : s2_1 = s2_529 := hU _ _ fs2_1.1 fs2_529.1 (fs2_1.2.trans fs2_529.2.symm)
                    obtain rfl : s3_1 = s3_529 := hU _ _ fs3_1.1 fs3_529.1 (fs3_1.2.trans fs3_529.2.symm)
                    obtain rfl : s4_1 = s4_529 := hU _ _ fs4_1.1 fs4_529.1 (fs4_1.2.trans fs4_529.2.symm)
                    obtain rfl : s5_1 = s5_529 := hU _ _ fs5_1.1 fs5_529.1 (fs5_1.2.trans fs5_529.2.symm)
                    obtain rfl : s6_1 = s6_529 := hU _ _ fs6_1.1 fs6_529.1 (fs6_1.2.trans fs6_529.2.symm)
                    obtain rfl : s7_1 = s7_529 := hU _ _ fs7_1.1 fs7_529.1 (fs7_1.2.trans fs7_529.2.symm)
                    obtain rfl : s8_1 = s8_529 := hU _ _ fs8_1.1 fs8_529.1 (fs8_1.2.trans fs8_529.2.symm)
                    obtain rfl : s9_1 = s9_529 := hU _ _ fs9_1.1 fs9_529.1 (fs9_1.2.trans fs9_529.2.symm)
                    obtain rfl : s10_1 = s10_529 := hU _ _ fs10_1.1 fs10_529.1 (fs10_1.2.trans fs10_529.2.symm)
                    obtain rfl : s11_1 = s11_529 := hU _ _ fs11_1.1 fs11_529.1 (fs11_1.2.trans fs11_529.2.symm)
                    obtain rfl : s12_1 = s12_529 := hU _ _ fs12_1.1 fs12_529.1 (fs12_1.2.trans fs12_529.2.symm)
                    obtain rfl : s13_1 = s13_529 := hU _ _ fs13_1.1 fs13_529.1 (fs13_1.2.trans fs13_529.2.symm)
                    obtain rfl : s14_1 = s14_529 := hU _ _ fs14_1.1 fs14_529.1 (fs14_1.2.trans fs14_529.2.symm)
                    obtain rfl : s15_1 = s15_529 := hU _ _ fs15_1.1 fs15_529.1 (fs15_1.2.trans fs15_529.2.symm)
                    obtain rfl : s16_1 = s16_529 := hU _ _ fs16_1.1 fs16_529.1 (fs16_1.2.trans fs16_529.2.symm)
                    obtain rfl : s17_1 = s17_529 := hU _ _ fs17_1.1 fs17_529.1 (fs17_1.2.trans fs17_529.2.symm)
                    obtain rfl : s18_1 = s18_529 := hU _ _ fs18_1.1 fs18_529.1 (fs18_1.2.trans fs18_529.2.symm)
                    exact ih_202 i_528 f_518 _ _ _  (by omega) (by omega) ⟨hfr, ⟨hKQ, Or.inl ⟨lf, hTD, hFL, by omega, (by rw [lall_step (by omega) ki_528, tls_at (by omega), getD_is hat9]; exact hTS)⟩⟩⟩ hPI hP hD hS (lv_sub hl [0, 1, 2] rfl)
                  · refine lv_if_eq (tgt := 234) hx hb dX3_find_214 (by decide) (fun _ => ?_) (fun c9 => absurd c9 (by decide))
                    refine lv_aload_n hx hb dX3_find_234 rfl (lv_at hl 1 rfl) ?_
                    obtain ⟨k_530, hk_530⟩ := va_plg hg0.1 e_508
                    refine va_get (D := (dC, dI)) (ci := 3) (v := .int 0) (C := RX3) (T := TX3) (N := 23) hx hb hts iX3_ hown hK hP k_530 hk_530 rfl 18 (by decide) (hts (.fieldLink RX3 163 "FieldLeavesModel" "isRoom" "Z") (by decide +kernel)) (fun _ h9 => h9) rfl dX3_find_235 ?_
                    subst eQ
                    exact W.zret (v := 0) hx hb hr rfl (fun t ht hW => ⟨⟨0, (), rfl, Or.inr ⟨rfl, tlS_none2 hTD (Nat.lt_of_lt_of_le (hTS.room.2 (show cI (fl202 g0) 18 = 0 from by rw [e_508]; rfl)) (lall_mono (by have h7 := clamp_int (i := j2) (by omega); omega)))⟩, fl202, hPI, ⟨(FR.tr hfrE24 (FR.tr hfrE202 hfr (fun _ h => h)) (fun _ h => h)), hKQ, fun lz h9 => by rw [tlS_none2 hTD (Nat.lt_of_lt_of_le (hTS.room.2 (show cI (fl202 g0) 18 = 0 from by rw [e_508]; rfl)) (lall_mono (by have h7 := clamp_int (i := j2) (by omega); omega)))] at h9; cases h9⟩, by rw [ht]; exact hP, hD⟩, hS.F ht⟩) hS.2.2 dX3_find_238
              · (refine hPI.a10E hg0 ?_; intro s1_531 s2_531 s3_531 s4_531 s5_531 s6_531 s7_531 pa_531 lm_531 s8_531 s9_531 s10_531 fm_531 s11_531 nm_531 s12_531 s13_531 s14_531 rm_531 s15_531 s16_531 s17_531 s18_531 e_531 fs1_531 fs2_531 fs3_531 fs4_531 fs5_531 fs6_531 fs7_531 flm_531 fs8_531 fs9_531 fs10_531 ffm_531 fs11_531 fnm_531 fs12_531 fs13_531 fs14_531 frm_531 fs15_531 fs16_531 fs17_531 fs18_531)
                obtain ⟨k_531, hk_531⟩ := va_plg hg0.1 e_531
                obtain rfl : s1_1 = s1_531 := hU _ _ fs1_1.1 fs1_531.1 (fs1_1.2.trans fs1_531.2.symm)
                obtain rfl : s2_1 = s2_531 := hU _ _ fs2_1.1 fs2_531.1 (fs2_1.2.trans fs2_531.2.symm)
                obtain rfl : s3_1 = s3_531 := hU _ _ fs3_1.1 fs3_531.1 (fs3_1.2.trans fs3_531.2.symm)
                obtain rfl : s4_1 = s4_531 := hU _ _ fs4_1.1 fs4_531.1 (fs4_1.2.trans fs4_531.2.symm)
                obtain rfl : s5_1 = s5_531 := hU _ _ fs5_1.1 fs5_531.1 (fs5_1.2.trans fs5_531.2.symm)
                obtain rfl : s6_1 = s6_531 := hU _ _ fs6_1.1 fs6_531.1 (fs6_1.2.trans fs6_531.2.symm)
                obtain rfl : s7_1 = s7_531 := hU _ _ fs7_1.1 fs7_531.1 (fs7_1.2.trans fs7_531.2.symm)
                obtain rfl : s8_1 = s8_531 := hU _ _ fs8_1.1 fs8_531.1 (fs8_1.2.trans fs8_531.2.symm)
                obtain rfl : s9_1 = s9_531 := hU _ _ fs9_1.1 fs9_531.1 (fs9_1.2.trans fs9_531.2.symm)
                obtain rfl : s10_1 = s10_531 := hU _ _ fs10_1.1 fs10_531.1 (fs10_1.2.trans fs10_531.2.symm)
                obtain rfl : s11_1 = s11_531 := hU _ _ fs11_1.1 fs11_531.1 (fs11_1.2.trans fs11_531.2.symm)
                obtain rfl : s12_1 = s12_531 := hU _ _ fs12_1.1 fs12_531.1 (fs12_1.2.trans fs12_531.2.symm)
                obtain rfl : s13_1 = s13_531 := hU _ _ fs13_1.1 fs13_531.1 (fs13_1.2.trans fs13_531.2.symm)
                obtain rfl : s14_1 = s14_531 := hU _ _ fs14_1.1 fs14_531.1 (fs14_1.2.trans fs14_531.2.symm)
                obtain rfl : s15_1 = s15_531 := hU _ _ fs15_1.1 fs15_531.1 (fs15_1.2.trans fs15_531.2.symm)
                obtain rfl : s16_1 = s16_531 := hU _ _ fs16_1.1 fs16_531.1 (fs16_1.2.trans fs16_531.2.symm)
                obtain rfl : s17_1 = s17_531 := hU _ _ fs17_1.1 fs17_531.1 (fs17_1.2.trans fs17_531.2.symm)
                obtain rfl : s18_1 = s18_531 := hU _ _ fs18_1.1 fs18_531.1 (fs18_1.2.trans fs18_531.2.symm)
                rw [show cI (fl202 g0) 18 = rm_531 from by rw [e_531]; rfl] at h18
                subst h18
                refine lv_iload_n hx hb dX3_find_202 rfl (lv_at hl 0 rfl) ?_
                refine lv_aload_n hx hb dX3_find_203 rfl (lv_at hl 1 rfl) ?_
                obtain ⟨k_532, hk_532⟩ := va_plg hg0.1 e_531
                refine va_get (D := (dC, dI)) (ci := 3) (v := .int fm_531) (C := RX3) (T := TX3) (N := 23) hx hb hts iX3_ hown hK hP k_532 hk_532 rfl 12 (by decide) (hts (.fieldLink RX3 167 "FieldLeavesModel" "foundMany" "I") (by decide +kernel)) (fun _ h9 => h9) rfl dX3_find_204 ?_
                refine lv_icmp_ge (tgt := 234) hx hb dX3_find_207 (by decide) (fun c_533 => ?_) (fun c_533 => ?_)
                · have c_533 := Int32.le_iff_toInt_le.mp c_533
                  refine lv_aload_n hx hb dX3_find_234 rfl (lv_at hl 1 rfl) ?_
                  obtain ⟨k_534, hk_534⟩ := va_plg hg0.1 e_531
                  refine va_get (D := (dC, dI)) (ci := 3) (v := .int 0) (C := RX3) (T := TX3) (N := 23) hx hb hts iX3_ hown hK hP k_534 hk_534 rfl 18 (by decide) (hts (.fieldLink RX3 163 "FieldLeavesModel" "isRoom" "Z") (by decide +kernel)) (fun _ h9 => h9) rfl dX3_find_235 ?_
                  subst eQ
                  exact W.zret (v := 0) hx hb hr rfl (fun t ht hW => ⟨⟨0, (), rfl, Or.inr ⟨rfl, tlS_none1 (by rw [hTD]; exact fun h9 => by cases h9)⟩, fl202, hPI, ⟨(FR.tr hfrE24 (FR.tr hfrE202 hfr (fun _ h => h)) (fun _ h => h)), hKQ, fun lz h9 => by rw [tlS_none1 (by rw [hTD]; exact fun h9 => by cases h9)] at h9; cases h9⟩, by rw [ht]; exact hP, hD⟩, hS.F ht⟩) hS.2.2 dX3_find_238
                · have c_533 := mt Int32.le_iff_toInt_le.mpr c_533
                  refine lv_aload_n hx hb dX3_find_210 rfl (lv_at hl 1 rfl) ?_
                  obtain ⟨k_535, hk_535⟩ := va_plg hg0.1 e_531
                  refine va_get (D := (dC, dI)) (ci := 3) (v := .int 0) (C := RX3) (T := TX3) (N := 23) hx hb hts iX3_ hown hK hP k_535 hk_535 rfl 18 (by decide) (hts (.fieldLink RX3 163 "FieldLeavesModel" "isRoom" "Z") (by decide +kernel)) (fun _ h9 => h9) rfl dX3_find_211 ?_
                  refine lv_if_eq (tgt := 234) hx hb dX3_find_214 (by decide) (fun _ => ?_) (fun c9 => absurd c9 (by decide))
                  refine lv_aload_n hx hb dX3_find_234 rfl (lv_at hl 1 rfl) ?_
                  obtain ⟨k_536, hk_536⟩ := va_plg hg0.1 e_531
                  refine va_get (D := (dC, dI)) (ci := 3) (v := .int 0) (C := RX3) (T := TX3) (N := 23) hx hb hts iX3_ hown hK hP k_536 hk_536 rfl 18 (by decide) (hts (.fieldLink RX3 163 "FieldLeavesModel" "isRoom" "Z") (by decide +kernel)) (fun _ h9 => h9) rfl dX3_find_235 ?_
                  subst eQ
                  exact W.zret (v := 0) hx hb hr rfl (fun t ht hW => ⟨⟨0, (), rfl, Or.inr ⟨rfl, tlS_none1 (by rw [hTD]; exact fun h9 => by cases h9)⟩, fl202, hPI, ⟨(FR.tr hfrE24 (FR.tr hfrE202 hfr (fun _ h => h)) (fun _ h => h)), hKQ, fun lz h9 => by rw [tlS_none1 (by rw [hTD]; exact fun h9 => by cases h9)] at h9; cases h9⟩, by rw [ht]; exact hP, hD⟩, hS.F ht⟩) hS.2.2 dX3_find_238
          exact loop_202 25 0 fl _ _ _  (by omega) (by omega) ⟨FR.rf, ⟨(show KQ2 f fl g0 from ⟨(by rw [e_56]; exact hk7), (by rw [e_56]; exact hk8)⟩), Or.inr ⟨(show cI (fl g0) 18 = 0 from by rw [e_56]; rfl), hfd⟩⟩⟩ hPI hP hD hS hl
  exact loop_24 25 0 f_38 _ _ _  (by omega) (by omega) ⟨FR.rf, ⟨(show KQ2 f f_38 g0 from ⟨(by rw [es_f_38]; exact hk7), (by rw [es_f_38]; exact hk8)⟩), (by rw [(show cI (f_38 g0) 14 = 0 from by rw [es_f_38]; rfl)]; exact k0_), Or.inl ⟨(show cI (f_38 g0) 18 = 1 from by rw [es_f_38]; rfl), [(Int32.toNatClampNeg o0)], ⟨_, un_row hU fs11_1 eq_47, (by rw [(show cI (f_38 g0) 12 = 1 from by rw [es_f_38]; rfl)]; exact k1_), rf_one⟩, by rw [k0_]; rfl⟩⟩⟩ hPI hP hD hS (lv_sub hl [0, 1, 2] rfl)

