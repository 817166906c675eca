set_option maxRecDepth 20000 in
theorem in_q_X3_leaves_X3 : ∀ w ∈ u_ws RX3 TX3 23, w ∈ wsX3_leaves := by decide +kernel
set_option maxRecDepth 100000 in
set_option maxHeartbeats 4000000 in
theorem q_X3_leaves (l : Launch) (dC : Nat → ClassId) (dI : Nat → Nat → Nat) (TT : Nat × Nat × Nat) (sz : Nat) (kI kJ kZ : ClassId) (K : Nat → Nat) (L : List Nat) (f : Nat → va_E) (hPI : PR kI kJ kZ K L f) (g0 : Nat) (hg0 : isr K L 10 g0) (p0 : Int32) (hU : UN K L) (hXL : XL kI kJ K L f 23 24) (hXM : XL kI kJ K L f 19 20) : Met l yX3_leaves wsX3_leaves ({ frames := 3, cells := 0, slots := 0, locals := 75 } : Room) (va_Pc [.ref g0, .int p0] (pr dC dI (va_pl L f) (va_pl L f) [(kI, .int), (kJ, .long), (kZ, .boolean)] sz TT)) (va_Qi (fun (r : Int32) (u : Unit) => True) (fun (_ : Unit) t => ∃ f2 : Nat → va_E, PR kI kJ kZ K L f2 ∧ (FR (sK [10, 18, 19, 20, 21, 22, 23, 24]) K L f f2 ∧ (XL kI kJ K L f2 23 24 ∧ XL kI kJ K L f2 19 20)) ∧ va_P (dC, dI) vwCl (va_pl L f2) t.heap ∧ va_D (va_A (va_pl L f) sz) (va_pl L f2)) (va_A (va_pl L f) sz)) 0 0 (va_A (va_pl L f) sz) := by
  refine Met.ofW (cc := cX3_leaves) (maxL := 3) (ret := (some .int)) (by decide) rfl ?_
  intro p e s m args below meth c s₁ B hml hv
  obtain ⟨rfl, hsz, hP, hK, hD0, hst⟩ := hv
  have hx := B.exec
  have hb := B.bytes
  have hr := B.returns
  have hts := atoms_spec (ws := wsX3_leaves) B.pre
  have hown : s.vm.findClass RX3 = some m.cls := findClass_of_methodNamed B.named
  have hlocks := B.notSynchronized
  have iX3_ := in_q_X3_leaves_X3
  subst hsz
  have hD := hD0.self (sz := s.heap.size)
  generalize hAe : va_A (va_pl L f) s.heap.size = A at hD hst ⊢
  have hA : ∀ q : Nat, s.heap.size ≤ q → A q := fun q h => by rw [← hAe]; exact Or.inr h
  have hS : va_S A s.heap s.heap [] := va_S.rf
  have hl := lv_entry ([.ref g0, .int p0]) (n := 3) (Nat.le_of_ble_eq_true rfl)
  rw [lg_entry_eq]
  generalize (lg_sl ([.ref g0, .int p0]) ++ List.replicate (3 - (lg_sl ([.ref g0, .int p0])).length) Slot.unset).toArray = ls at hl ⊢
  have hl : lv_has ls 3 [(0, .ref g0), (1, .int p0)] := hl
  have km11_ : Int32.toInt (-11) = -11 := by decide
  have km3_ : Int32.toInt (-3) = -3 := by decide
  have km1_ : Int32.toInt (-1) = -1 := by decide
  have k0_ : Int32.toInt 0 = 0 := by decide
  have hfr : FR (sK [10, 18, 19, 20, 21, 22, 23, 24]) K L f f := FR.rf
  refine W_nameQ (fun Q0 eQ => ?_)
  refine lv_iload_n hx hb dX3_leaves_0 rfl (lv_at hl 1 rfl) ?_
  refine va_calli (va_runS (As := [.int p0]) (rest := []) ⟨hx, hb, hml, hown, hts⟩ (c_X3_isSlot l dC dI TT s.heap.size p0) (va_cwS 1 hts gX3_leaves_X3_isSlot rfl rfl rfl (by decide +kernel) ⟨Nat.le_of_ble_eq_true rfl, Nat.le_of_ble_eq_true rfl⟩) (pr_S (ws := []) (wA := []) (tys := []) vp_nil (hK.sub [] rfl) vd_nil hst hS (ro_free hS hA)) rfl rfl hl.1 rfl (lv_room (Nat.le_of_ble_eq_true rfl)) dX3_leaves_1 ⟨Nat.le_of_ble_eq_true rfl, Nat.le_of_ble_eq_true rfl⟩) hS (fun q _ h => (ro_free hS hA) q h) (ro_free hS hA) (fun r_1 u t H1 locs ht hvm hw hB hz1 hk1 hS => ?_)
  have hP := ro_keep hP hk1
  generalize H1 = H at hP hS ⊢
  rcases hw with ⟨rfl, hp_2⟩ | ⟨rfl, hp_2⟩
  · refine lv_if_ne (tgt := 9) hx hb dX3_leaves_4 (by decide) (fun _ => ?_) (fun c9 => absurd c9 (by decide))
    refine lv_aload_n hx hb dX3_leaves_9 rfl (lv_at hl 0 rfl) ?_
    obtain ⟨s1_3, s2_3, s3_3, s4_3, s5_3, s6_3, s7_3, pa_3, lm_3, s8_3, s9_3, s10_3, fm_3, s11_3, nm_3, s12_3, s13_3, s14_3, rm_3, s15_3, s16_3, s17_3, s18_3, e_3, fs1_3, fs2_3, fs3_3, fs4_3, fs5_3, fs6_3, fs7_3, flm_3, fs8_3, fs9_3, fs10_3, ffm_3, fs11_3, fnm_3, fs12_3, fs13_3, fs14_3, frm_3, fs15_3, fs16_3, fs17_3, fs18_3⟩ := hPI.a10 hg0
    obtain ⟨k_3, hk_3⟩ := va_plg hg0.1 e_3
    refine va_get (D := (dC, dI)) (ci := 3) (v := .ref s1_3) (C := RX3) (T := TX3) (N := 23) hx hb hts iX3_ hown hK hP k_3 hk_3 rfl 0 (by decide) (hts (.fieldLink RX3 7 "FieldLeavesModel" "slot" "[I") (by decide +kernel)) (fun _ h9 => h9) rfl dX3_leaves_10 ?_
    refine lv_iload_n hx hb dX3_leaves_13 rfl (lv_at hl 1 rfl) ?_
    obtain ⟨g_4, e_4, fg_4⟩ := hPI.a11 fs1_3
    obtain ⟨k_4, hk_4⟩ := va_plg fs1_3.1 e_4
    have h_4 : vp_in p0 12 := (vp_in_iff.mpr (by constructor <;> omega))
    refine va_iald hx hb hK hP k_4 0 hk_4 rfl h_4 dX3_leaves_14 ?_
    refine lv_topi (fun z_4 ez_4 => ?_)
    have fz_4 := fg_4 _ (vp_lt h_4)
    rw [← ez_4] at fz_4
    refine lv_iconst (v := (-1)) hx hb dX3_leaves_15 (by decide) ?_
    refine lv_icmp_ne (tgt := 22) hx hb dX3_leaves_16 (by decide) (fun c_5 => ?_) (fun c_5 => ?_)
    · have c_5 := mt Int32.toInt_inj.mp c_5
      refine lv_aload_n hx hb dX3_leaves_22 rfl (lv_at hl 0 rfl) ?_
      refine lv_aload_n hx hb dX3_leaves_23 rfl (lv_at hl 0 rfl) ?_
      obtain ⟨k_6, hk_6⟩ := va_plg hg0.1 e_3
      refine va_get (D := (dC, dI)) (ci := 3) (v := .ref s1_3) (C := RX3) (T := TX3) (N := 23) hx hb hts iX3_ hown hK hP k_6 hk_6 rfl 0 (by decide) (hts (.fieldLink RX3 7 "FieldLeavesModel" "slot" "[I") (by decide +kernel)) (fun _ h9 => h9) rfl dX3_leaves_24 ?_
      refine lv_iload_n hx hb dX3_leaves_27 rfl (lv_at hl 1 rfl) ?_
      obtain ⟨k_7, hk_7⟩ := va_plg fs1_3.1 e_4
      have h_7 : vp_in p0 12 := (vp_in_iff.mpr (by constructor <;> omega))
      refine va_iald hx hb hK hP k_7 0 hk_7 rfl h_7 dX3_leaves_28 ?_
      refine lv_topi (fun z_7 ez_7 => ?_)
      obtain rfl : z_4 = z_7 := ez_4.trans ez_7.symm
      have hFc := pl_free hD hS hA
      obtain ⟨k_8, hk_8⟩ := va_plg hg0.1 e_3
      refine va_calli (va_runV (b := g0) (As := [.int z_4]) (rest := []) ⟨hx, hb, hml, hown, hts⟩ (q_X3_find l dC dI TT H.size kI kJ kZ K L f hPI g0 hg0 z_4 (by constructor <;> omega) hU hXL) (cwV 1 hts gX3_leaves_X3_find rfl rfl rfl (by decide +kernel) ⟨Nat.le_of_ble_eq_true rfl, Nat.le_of_ble_eq_true rfl⟩) ⟨pr_blind, va_recv hK hP (ci := 3) rfl hk_8, (pr_S (ws := va_pl L f) (wA := va_pl L f) (tys := [(kI, .int), (kJ, .long), (kZ, .boolean)]) hP hK (hD.weaken (fun _ _ _ _ => trivial)) hst hS hFc).2⟩ rfl rfl hl.1 rfl (lv_room (Nat.le_of_ble_eq_true rfl)) dX3_leaves_29 ⟨Nat.le_of_ble_eq_true rfl, Nat.le_of_ble_eq_true rfl⟩) hS (fun q _ h => hFc q h) hFc (fun r_9 u t H1 locs ht hvm hw hB hz1 hk1 hS => ?_)
      obtain ⟨f_10, hPI, hrel, hP, hD9⟩ := hB
      rw [ht] at hP
      have hD := hD9.weaken (fun _ q _ h => hFc q.1 h)
      obtain ⟨hrelF, hrel⟩ := hrel
      have eq_11 := (hrelF s1_3 fs1_3.1 (by rw [fs1_3.2]; rfl)).trans e_4
      have hfr := FR.tr hfr hrelF (sK_sub (by decide))
      generalize H1 = H at hP hS ⊢
      have hXL := hrel
      have hXM := XL.fr hXM hrelF (by decide) (by decide)
      rcases hw with rfl | rfl
      · refine lv_if_ne (tgt := 38) hx hb dX3_leaves_32 (by decide) (fun _ => ?_) (fun c9 => absurd c9 (by decide))
        refine lv_aload_n hx hb dX3_leaves_38 rfl (lv_at hl 0 rfl) ?_
        refine lv_aload_n hx hb dX3_leaves_39 rfl (lv_at hl 0 rfl) ?_
        obtain ⟨s1_12, s2_12, s3_12, s4_12, s5_12, s6_12, s7_12, pa_12, lm_12, s8_12, s9_12, s10_12, fm_12, s11_12, nm_12, s12_12, s13_12, s14_12, rm_12, s15_12, s16_12, s17_12, s18_12, e_12, fs1_12, fs2_12, fs3_12, fs4_12, fs5_12, fs6_12, fs7_12, flm_12, fs8_12, fs9_12, fs10_12, ffm_12, fs11_12, fnm_12, fs12_12, fs13_12, fs14_12, frm_12, fs15_12, fs16_12, fs17_12, fs18_12⟩ := hPI.a10 hg0
        obtain ⟨k_12, hk_12⟩ := va_plg hg0.1 e_12
        obtain rfl : s1_3 = s1_12 := hU _ _ fs1_3.1 fs1_12.1 (fs1_3.2.trans fs1_12.2.symm)
        obtain rfl : s2_3 = s2_12 := hU _ _ fs2_3.1 fs2_12.1 (fs2_3.2.trans fs2_12.2.symm)
        obtain rfl : s3_3 = s3_12 := hU _ _ fs3_3.1 fs3_12.1 (fs3_3.2.trans fs3_12.2.symm)
        obtain rfl : s4_3 = s4_12 := hU _ _ fs4_3.1 fs4_12.1 (fs4_3.2.trans fs4_12.2.symm)
        obtain rfl : s5_3 = s5_12 := hU _ _ fs5_3.1 fs5_12.1 (fs5_3.2.trans fs5_12.2.symm)
        obtain rfl : s6_3 = s6_12 := hU _ _ fs6_3.1 fs6_12.1 (fs6_3.2.trans fs6_12.2.symm)
        obtain rfl : s7_3 = s7_12 := hU _ _ fs7_3.1 fs7_12.1 (fs7_3.2.trans fs7_12.2.symm)
        obtain rfl : s8_3 = s8_12 := hU _ _ fs8_3.1 fs8_12.1 (fs8_3.2.trans fs8_12.2.symm)
        obtain rfl : s9_3 = s9_12 := hU _ _ fs9_3.1 fs9_12.1 (fs9_3.2.trans fs9_12.2.symm)
        obtain rfl : s10_3 = s10_12 := hU _ _ fs10_3.1 fs10_12.1 (fs10_3.2.trans fs10_12.2.symm)
        obtain rfl : s11_3 = s11_12 := hU _ _ fs11_3.1 fs11_12.1 (fs11_3.2.trans fs11_12.2.symm)
        obtain rfl : s12_3 = s12_12 := hU _ _ fs12_3.1 fs12_12.1 (fs12_3.2.trans fs12_12.2.symm)
        obtain rfl : s13_3 = s13_12 := hU _ _ fs13_3.1 fs13_12.1 (fs13_3.2.trans fs13_12.2.symm)
        obtain rfl : s14_3 = s14_12 := hU _ _ fs14_3.1 fs14_12.1 (fs14_3.2.trans fs14_12.2.symm)
        obtain rfl : s15_3 = s15_12 := hU _ _ fs15_3.1 fs15_12.1 (fs15_3.2.trans fs15_12.2.symm)
        obtain rfl : s16_3 = s16_12 := hU _ _ fs16_3.1 fs16_12.1 (fs16_3.2.trans fs16_12.2.symm)
        obtain rfl : s17_3 = s17_12 := hU _ _ fs17_3.1 fs17_12.1 (fs17_3.2.trans fs17_12.2.symm)
        obtain rfl : s18_3 = s18_12 := hU _ _ fs18_3.1 fs18_12.1 (fs18_3.2.trans fs18_12.2.symm)
        refine va_get (D := (dC, dI)) (ci := 3) (v := .int nm_12) (C := RX3) (T := TX3) (N := 23) hx hb hts iX3_ hown hK hP k_12 hk_12 rfl 14 (by decide) (hts (.fieldLink RX3 160 "FieldLeavesModel" "newMany" "I") (by decide +kernel)) (fun _ h9 => h9) rfl dX3_leaves_40 ?_
        obtain ⟨k_13, hk_13⟩ := va_plg hg0.1 e_12
        have hD9 := hD
        have rg_14 : 0 ≤ Int32.toInt nm_12 ∧ Int32.toInt nm_12 ≤ 300 := by constructor <;> omega
        refine va_put (D := (dC, dI)) (ci := 3) (v := .int nm_12) (ty := .int) (C := RX3) (T := TX3) (N := 23) hx hb hts iX3_ tyX3 tyX3_ok nmX3 hown hK hP hD hS k_13 hk_13 rfl 8 (by decide) (hts (.fieldLink RX3 184 "FieldLeavesModel" "leafMany" "I") (by decide +kernel)) (fun _ h9 => h9) rfl (by decide +kernel) rfl rfl (Nat.le_of_ble_eq_true rfl) dX3_leaves_43 (fun H locs hP hD hS => ?_)
        have hP : va_P (dC, dI) vwCl (va_pl L (va_up f_10 g0 (.inr (3, [.ref s1_3, .ref s2_3, .ref s3_3, .ref s4_3, .ref s5_3, .ref s6_3, .ref s7_3, .int pa_12, .int nm_12, .ref s8_3, .ref s9_3, .ref s10_3, .int fm_12, .ref s11_3, .int nm_12, .ref s12_3, .ref s13_3, .ref s14_3, .int rm_12, .ref s15_3, .ref s16_3, .ref s17_3, .ref s18_3])))) H := by rw [← va_pls hD9 hg0.1 hk_13 _]; exact hP
        have hD : va_D A (va_pl L (va_up f_10 g0 (.inr (3, [.ref s1_3, .ref s2_3, .ref s3_3, .ref s4_3, .ref s5_3, .ref s6_3, .ref s7_3, .int pa_12, .int nm_12, .ref s8_3, .ref s9_3, .ref s10_3, .int fm_12, .ref s11_3, .int nm_12, .ref s12_3, .ref s13_3, .ref s14_3, .int rm_12, .ref s15_3, .ref s16_3, .ref s17_3, .ref s18_3])))) := by rw [← va_pls hD9 hg0.1 hk_13 _]; exact hD
        have hPI := hPI.put (e := .inr (3, [.ref s1_3, .ref s2_3, .ref s3_3, .ref s4_3, .ref s5_3, .ref s6_3, .ref s7_3, .int pa_12, .int nm_12, .ref s8_3, .ref s9_3, .ref s10_3, .int fm_12, .ref s11_3, .int nm_12, .ref s12_3, .ref s13_3, .ref s14_3, .int rm_12, .ref s15_3, .ref s16_3, .ref s17_3, .ref s18_3])) hg0 ⟨s1_3, s2_3, s3_3, s4_3, s5_3, s6_3, s7_3, pa_12, nm_12, s8_3, s9_3, s10_3, fm_12, s11_3, nm_12, s12_3, s13_3, s14_3, rm_12, s15_3, s16_3, s17_3, s18_3, rfl, fs1_3, fs2_3, fs3_3, fs4_3, fs5_3, fs6_3, fs7_3, rg_14, fs8_3, fs9_3, fs10_3, ffm_12, fs11_3, fnm_12, fs12_3, fs13_3, fs14_3, frm_12, fs15_3, fs16_3, fs17_3, fs18_3⟩
        have es_f_15 : va_up f_10 g0 (.inr (3, [.ref s1_3, .ref s2_3, .ref s3_3, .ref s4_3, .ref s5_3, .ref s6_3, .ref s7_3, .int pa_12, .int nm_12, .ref s8_3, .ref s9_3, .ref s10_3, .int fm_12, .ref s11_3, .int nm_12, .ref s12_3, .ref s13_3, .ref s14_3, .int rm_12, .ref s15_3, .ref s16_3, .ref s17_3, .ref s18_3])) g0 = .inr (3, [.ref s1_3, .ref s2_3, .ref s3_3, .ref s4_3, .ref s5_3, .ref s6_3, .ref s7_3, .int pa_12, .int nm_12, .ref s8_3, .ref s9_3, .ref s10_3, .int fm_12, .ref s11_3, .int nm_12, .ref s12_3, .ref s13_3, .ref s14_3, .int rm_12, .ref s15_3, .ref s16_3, .ref s17_3, .ref s18_3]) := va_up_self _ _ _
        have eq_16 := (va_up_ne f_10 (.inr (3, [.ref s1_3, .ref s2_3, .ref s3_3, .ref s4_3, .ref s5_3, .ref s6_3, .ref s7_3, .int pa_12, .int nm_12, .ref s8_3, .ref s9_3, .ref s10_3, .int fm_12, .ref s11_3, .int nm_12, .ref s12_3, .ref s13_3, .ref s14_3, .int rm_12, .ref s15_3, .ref s16_3, .ref s17_3, .ref s18_3])) (isr_ne fs1_3 hg0 (by decide))).trans eq_11
        have hfr := fr_up (S := (sK [10, 18, 19, 20, 21, 22, 23, 24])) (e := .inr (3, [.ref s1_3, .ref s2_3, .ref s3_3, .ref s4_3, .ref s5_3, .ref s6_3, .ref s7_3, .int pa_12, .int nm_12, .ref s8_3, .ref s9_3, .ref s10_3, .int fm_12, .ref s11_3, .int nm_12, .ref s12_3, .ref s13_3, .ref s14_3, .int rm_12, .ref s15_3, .ref s16_3, .ref s17_3, .ref s18_3])) hfr hg0 (by decide)
        have hXL := XL.up (e := .inr (3, [.ref s1_3, .ref s2_3, .ref s3_3, .ref s4_3, .ref s5_3, .ref s6_3, .ref s7_3, .int pa_12, .int nm_12, .ref s8_3, .ref s9_3, .ref s10_3, .int fm_12, .ref s11_3, .int nm_12, .ref s12_3, .ref s13_3, .ref s14_3, .int rm_12, .ref s15_3, .ref s16_3, .ref s17_3, .ref s18_3])) hXL hg0 (by decide) (by decide)
        have hXM := XL.up (e := .inr (3, [.ref s1_3, .ref s2_3, .ref s3_3, .ref s4_3, .ref s5_3, .ref s6_3, .ref s7_3, .int pa_12, .int nm_12, .ref s8_3, .ref s9_3, .ref s10_3, .int fm_12, .ref s11_3, .int nm_12, .ref s12_3, .ref s13_3, .ref s14_3, .int rm_12, .ref s15_3, .ref s16_3, .ref s17_3, .ref s18_3])) hXM hg0 (by decide) (by decide)
        generalize va_up f_10 g0 (.inr (3, [.ref s1_3, .ref s2_3, .ref s3_3, .ref s4_3, .ref s5_3, .ref s6_3, .ref s7_3, .int pa_12, .int nm_12, .ref s8_3, .ref s9_3, .ref s10_3, .int fm_12, .ref s11_3, .int nm_12, .ref s12_3, .ref s13_3, .ref s14_3, .int rm_12, .ref s15_3, .ref s16_3, .ref s17_3, .ref s18_3])) = f_15 at hP hD hPI es_f_15 eq_16 hfr hXL hXM
        refine lv_iconst (v := 0) hx hb dX3_leaves_46 (by decide) ?_
        refine lv_istore_n (lv' := [(2, .int 0), (0, .ref g0), (1, .int p0)]) hx hb dX3_leaves_47 rfl hl (by decide) rfl (fun ls hl => ?_)
        have hfrE48 := hfr
        have loop_48 : ∀ (n : Nat) (i2 : Int32)   (fl : Nat → va_E) (H : Heap) (locs : List Loc) (ls : Array Slot), (0 ≤ i2.toInt ∧ i2.toInt ≤ 300) → (300 - i2.toInt).toNat < n → (FR (sK [10, 18, 19, 20, 21, 22, 23, 24]) K L f_15 fl ∧ (XL kI kJ K L fl 23 24 ∧ XL kI kJ K L fl 19 20)) → PR kI kJ kZ K L fl → va_P (dC, dI) vwCl (va_pl L fl) H → va_D A (va_pl L fl) → va_S A s.heap H locs → lv_has ls 3 [(2, .int i2), (0, .ref g0), (1, .int p0)] → W p l e (headSpec wsX3_leaves ({ frames := 3, cells := 0, slots := 0, locals := 75 } : Room)).room s m (([.ref g0, .int p0] : List Value).toArray) below meth c H locs 0 0 Q0 (F0 m 48 ls []) := by
          intro n
          induction n with
          | zero => intro i2 fl H locs ls  _ h9; exact absurd h9 (Nat.not_lt_zero _)
          | succ n ih_48 =>
            intro i2 fl H locs ls  hI hM hFN hPI hP hD hS hl
            obtain ⟨hfr, hFN⟩ := hFN
            have eq_17 := (hfr s1_3 fs1_3.1 (by rw [fs1_3.2]; rfl)).trans eq_16
            obtain ⟨hXL, hXM⟩ := hFN
            obtain ⟨s1_18, s2_18, s3_18, s4_18, s5_18, s6_18, s7_18, pa_18, lm_18, s8_18, s9_18, s10_18, fm_18, s11_18, nm_18, s12_18, s13_18, s14_18, rm_18, s15_18, s16_18, s17_18, s18_18, e_18, fs1_18, fs2_18, fs3_18, fs4_18, fs5_18, fs6_18, fs7_18, flm_18, fs8_18, fs9_18, fs10_18, ffm_18, fs11_18, fnm_18, fs12_18, fs13_18, fs14_18, frm_18, fs15_18, fs16_18, fs17_18, fs18_18⟩ := hPI.a10 hg0
            obtain ⟨k_18, hk_18⟩ := va_plg hg0.1 e_18
            obtain rfl : s1_3 = s1_18 := hU _ _ fs1_3.1 fs1_18.1 (fs1_3.2.trans fs1_18.2.symm)
            obtain rfl : s2_3 = s2_18 := hU _ _ fs2_3.1 fs2_18.1 (fs2_3.2.trans fs2_18.2.symm)
            obtain rfl : s3_3 = s3_18 := hU _ _ fs3_3.1 fs3_18.1 (fs3_3.2.trans fs3_18.2.symm)
            obtain rfl : s4_3 = s4_18 := hU _ _ fs4_3.1 fs4_18.1 (fs4_3.2.trans fs4_18.2.symm)
            obtain rfl : s5_3 = s5_18 := hU _ _ fs5_3.1 fs5_18.1 (fs5_3.2.trans fs5_18.2.symm)
            obtain rfl : s6_3 = s6_18 := hU _ _ fs6_3.1 fs6_18.1 (fs6_3.2.trans fs6_18.2.symm)
            obtain rfl : s7_3 = s7_18 := hU _ _ fs7_3.1 fs7_18.1 (fs7_3.2.trans fs7_18.2.symm)
            obtain rfl : s8_3 = s8_18 := hU _ _ fs8_3.1 fs8_18.1 (fs8_3.2.trans fs8_18.2.symm)
            obtain rfl : s9_3 = s9_18 := hU _ _ fs9_3.1 fs9_18.1 (fs9_3.2.trans fs9_18.2.symm)
            obtain rfl : s10_3 = s10_18 := hU _ _ fs10_3.1 fs10_18.1 (fs10_3.2.trans fs10_18.2.symm)
            obtain rfl : s11_3 = s11_18 := hU _ _ fs11_3.1 fs11_18.1 (fs11_3.2.trans fs11_18.2.symm)
            obtain rfl : s12_3 = s12_18 := hU _ _ fs12_3.1 fs12_18.1 (fs12_3.2.trans fs12_18.2.symm)
            obtain rfl : s13_3 = s13_18 := hU _ _ fs13_3.1 fs13_18.1 (fs13_3.2.trans fs13_18.2.symm)
            obtain rfl : s14_3 = s14_18 := hU _ _ fs14_3.1 fs14_18.1 (fs14_3.2.trans fs14_18.2.symm)
            obtain rfl : s15_3 = s15_18 := hU _ _ fs15_3.1 fs15_18.1 (fs15_3.2.trans fs15_18.2.symm)
            obtain rfl : s16_3 = s16_18 := hU _ _ fs16_3.1 fs16_18.1 (fs16_3.2.trans fs16_18.2.symm)
            obtain rfl : s17_3 = s17_18 := hU _ _ fs17_3.1 fs17_18.1 (fs17_3.2.trans fs17_18.2.symm)
            obtain rfl : s18_3 = s18_18 := hU _ _ fs18_3.1 fs18_18.1 (fs18_3.2.trans fs18_18.2.symm)
            obtain ⟨g_19, e_19, fg_19⟩ := hPI.a19 fs9_3
            obtain ⟨k_19, hk_19⟩ := va_plg fs9_3.1 e_19
            obtain ⟨g_20, e_20, fg_20⟩ := hPI.a20 fs10_3
            obtain ⟨k_20, hk_20⟩ := va_plg fs10_3.1 e_20
            obtain ⟨g_21, e_21, fg_21⟩ := hPI.a23 fs13_3
            obtain ⟨k_21, hk_21⟩ := va_plg fs13_3.1 e_21
            obtain ⟨g_22, e_22, fg_22⟩ := hPI.a24 fs14_3
            obtain ⟨k_22, hk_22⟩ := va_plg fs14_3.1 e_22
            have hxm := hXM _ _ _ _ fs9_3 fs10_3 e_19 e_20
            have hxn := hXL _ _ _ _ fs13_3 fs14_3 e_21 e_22
            refine lv_iload_n hx hb dX3_leaves_48 rfl (lv_at hl 0 rfl) ?_
            refine lv_aload_n hx hb dX3_leaves_49 rfl (lv_at hl 1 rfl) ?_
            obtain ⟨k_23, hk_23⟩ := va_plg hg0.1 e_18
            refine va_get (D := (dC, dI)) (ci := 3) (v := .int nm_18) (C := RX3) (T := TX3) (N := 23) hx hb hts iX3_ hown hK hP k_23 hk_23 rfl 14 (by decide) (hts (.fieldLink RX3 160 "FieldLeavesModel" "newMany" "I") (by decide +kernel)) (fun _ h9 => h9) rfl dX3_leaves_50 ?_
            refine lv_icmp_ge (tgt := 98) hx hb dX3_leaves_53 (by decide) (fun c_24 => ?_) (fun c_24 => ?_)
            · have c_24 := Int32.le_iff_toInt_le.mp c_24
              refine lv_aload_n hx hb dX3_leaves_98 rfl (lv_at hl 1 rfl) ?_
              obtain ⟨k_25, hk_25⟩ := va_plg hg0.1 e_18
              refine va_get (D := (dC, dI)) (ci := 3) (v := .int lm_18) (C := RX3) (T := TX3) (N := 23) hx hb hts iX3_ hown hK hP k_25 hk_25 rfl 8 (by decide) (hts (.fieldLink RX3 184 "FieldLeavesModel" "leafMany" "I") (by decide +kernel)) (fun _ h9 => h9) rfl dX3_leaves_99 ?_
              subst eQ
              exact W.iret (v := lm_18) hx hb hr (fun t ht hW => ⟨⟨lm_18, (), rfl, trivial, fl, hPI, ⟨(FR.tr hfrE48 hfr (fun _ h => h)), hXL, hXM⟩, by rw [ht]; exact hP, hD⟩, hS.F ht⟩) hS.2.2 dX3_leaves_102
            · have c_24 := mt Int32.le_iff_toInt_le.mpr c_24
              refine lv_aload_n hx hb dX3_leaves_56 rfl (lv_at hl 1 rfl) ?_
              obtain ⟨k_26, hk_26⟩ := va_plg hg0.1 e_18
              refine va_get (D := (dC, dI)) (ci := 3) (v := .ref s8_3) (C := RX3) (T := TX3) (N := 23) hx hb hts iX3_ hown hK hP k_26 hk_26 rfl 9 (by decide) (hts (.fieldLink RX3 35 "FieldLeavesModel" "leafObject" "[I") (by decide +kernel)) (fun _ h9 => h9) rfl dX3_leaves_57 ?_
              refine lv_iload_n hx hb dX3_leaves_60 rfl (lv_at hl 0 rfl) ?_
              refine lv_aload_n hx hb dX3_leaves_61 rfl (lv_at hl 1 rfl) ?_
              obtain ⟨k_27, hk_27⟩ := va_plg hg0.1 e_18
              refine va_get (D := (dC, dI)) (ci := 3) (v := .ref s12_3) (C := RX3) (T := TX3) (N := 23) hx hb hts iX3_ hown hK hP k_27 hk_27 rfl 15 (by decide) (hts (.fieldLink RX3 47 "FieldLeavesModel" "newObject" "[I") (by decide +kernel)) (fun _ h9 => h9) rfl dX3_leaves_62 ?_
              refine lv_iload_n hx hb dX3_leaves_65 rfl (lv_at hl 0 rfl) ?_
              obtain ⟨g_28, e_28, fg_28⟩ := hPI.a22 fs12_3
              obtain ⟨k_28, hk_28⟩ := va_plg fs12_3.1 e_28
              have h_28 : vp_in i2 300 := (vp_in_iff.mpr (by constructor <;> omega))
              refine va_iald hx hb hK hP k_28 0 hk_28 rfl h_28 dX3_leaves_66 ?_
              refine lv_topi (fun z_28 ez_28 => ?_)
              have fz_28 := fg_28 _ (vp_lt h_28)
              rw [← ez_28] at fz_28
              obtain ⟨g_29, e_29, fg_29⟩ := hPI.a18 fs8_3
              obtain ⟨k_29, hk_29⟩ := va_plg fs8_3.1 e_29
              have h_29 : vp_in i2 300 := (vp_in_iff.mpr (by constructor <;> omega))
              have fw_29 := updS (P := fun v => 0 ≤ v.toInt ∧ v.toInt < 24) (k := Int32.toNatClampNeg i2) (v := z_28) fg_29 (by omega)
              have hD9 := hD
              refine va_iast hx hb hK hP hD hS k_29 0 hk_29 rfl h_29 dX3_leaves_67 (fun H locs hP hD hS => ?_)
              have hP : va_P (dC, dI) vwCl (va_pl L (va_up fl s8_3 (.inl (kI, 300, .inl (upd g_29 (Int32.toNatClampNeg i2) z_28))))) H := by rw [← va_pls hD9 fs8_3.1 hk_29 _]; exact hP
              have hD : va_D A (va_pl L (va_up fl s8_3 (.inl (kI, 300, .inl (upd g_29 (Int32.toNatClampNeg i2) z_28))))) := by rw [← va_pls hD9 fs8_3.1 hk_29 _]; exact hD
              have hPI := hPI.put (e := .inl (kI, 300, .inl (upd g_29 (Int32.toNatClampNeg i2) z_28))) fs8_3 ⟨_, rfl, fw_29⟩
              have es_f_30 : va_up fl s8_3 (.inl (kI, 300, .inl (upd g_29 (Int32.toNatClampNeg i2) z_28))) s8_3 = .inl (kI, 300, .inl (upd g_29 (Int32.toNatClampNeg i2) z_28)) := va_up_self _ _ _
              have eq_31 := (va_up_ne fl (.inl (kI, 300, .inl (upd g_29 (Int32.toNatClampNeg i2) z_28))) (isr_ne hg0 fs8_3 (by decide))).trans e_18
              have eq_32 := (va_up_ne fl (.inl (kI, 300, .inl (upd g_29 (Int32.toNatClampNeg i2) z_28))) (isr_ne fs1_3 fs8_3 (by decide))).trans eq_17
              have eq_33 := (va_up_ne fl (.inl (kI, 300, .inl (upd g_29 (Int32.toNatClampNeg i2) z_28))) (isr_ne fs9_3 fs8_3 (by decide))).trans e_19
              have eq_34 := (va_up_ne fl (.inl (kI, 300, .inl (upd g_29 (Int32.toNatClampNeg i2) z_28))) (isr_ne fs10_3 fs8_3 (by decide))).trans e_20
              have eq_35 := (va_up_ne fl (.inl (kI, 300, .inl (upd g_29 (Int32.toNatClampNeg i2) z_28))) (isr_ne fs13_3 fs8_3 (by decide))).trans e_21
              have eq_36 := (va_up_ne fl (.inl (kI, 300, .inl (upd g_29 (Int32.toNatClampNeg i2) z_28))) (isr_ne fs14_3 fs8_3 (by decide))).trans e_22
              have eq_37 := (va_up_ne fl (.inl (kI, 300, .inl (upd g_29 (Int32.toNatClampNeg i2) z_28))) (isr_ne fs12_3 fs8_3 (by decide))).trans e_28
              have hfr := fr_up (S := (sK [10, 18, 19, 20, 21, 22, 23, 24])) (e := .inl (kI, 300, .inl (upd g_29 (Int32.toNatClampNeg i2) z_28))) hfr fs8_3 (by decide)
              have hXL := XL.up (e := .inl (kI, 300, .inl (upd g_29 (Int32.toNatClampNeg i2) z_28))) hXL fs8_3 (by decide) (by decide)
              have hXM := XL.up (e := .inl (kI, 300, .inl (upd g_29 (Int32.toNatClampNeg i2) z_28))) hXM fs8_3 (by decide) (by decide)
              generalize va_up fl s8_3 (.inl (kI, 300, .inl (upd g_29 (Int32.toNatClampNeg i2) z_28))) = f_30 at hP hD hPI es_f_30 eq_31 eq_32 eq_33 eq_34 eq_35 eq_36 eq_37 hfr hXL hXM
              refine lv_aload_n hx hb dX3_leaves_68 rfl (lv_at hl 1 rfl) ?_
              obtain ⟨k_38, hk_38⟩ := va_plg hg0.1 eq_31
              refine va_get (D := (dC, dI)) (ci := 3) (v := .ref s9_3) (C := RX3) (T := TX3) (N := 23) hx hb hts iX3_ hown hK hP k_38 hk_38 rfl 10 (by decide) (hts (.fieldLink RX3 38 "FieldLeavesModel" "leafField" "[I") (by decide +kernel)) (fun _ h9 => h9) rfl dX3_leaves_69 ?_
              refine lv_iload_n hx hb dX3_leaves_72 rfl (lv_at hl 0 rfl) ?_
              refine lv_aload_n hx hb dX3_leaves_73 rfl (lv_at hl 1 rfl) ?_
              obtain ⟨k_39, hk_39⟩ := va_plg hg0.1 eq_31
              refine va_get (D := (dC, dI)) (ci := 3) (v := .ref s13_3) (C := RX3) (T := TX3) (N := 23) hx hb hts iX3_ hown hK hP k_39 hk_39 rfl 16 (by decide) (hts (.fieldLink RX3 50 "FieldLeavesModel" "newField" "[I") (by decide +kernel)) (fun _ h9 => h9) rfl dX3_leaves_74 ?_
              refine lv_iload_n hx hb dX3_leaves_77 rfl (lv_at hl 0 rfl) ?_
              obtain ⟨k_40, hk_40⟩ := va_plg fs13_3.1 eq_35
              have h_40 : vp_in i2 300 := (vp_in_iff.mpr (by constructor <;> omega))
              refine va_iald hx hb hK hP k_40 0 hk_40 rfl h_40 dX3_leaves_78 ?_
              refine lv_topi (fun z_40 ez_40 => ?_)
              have fz_40 := fg_21 _ (vp_lt h_40)
              rw [← ez_40] at fz_40
              obtain ⟨k_41, hk_41⟩ := va_plg fs9_3.1 eq_33
              have h_41 : vp_in i2 300 := (vp_in_iff.mpr (by constructor <;> omega))
              have fw_41 := updS (P := fun v => (-1 ≤ v.toInt ∧ v.toInt < 17) ∨ (100 ≤ v.toInt ∧ v.toInt < 120)) (k := Int32.toNatClampNeg i2) (v := z_40) fg_19 (by omega)
              have hD9 := hD
              refine va_iast hx hb hK hP hD hS k_41 0 hk_41 rfl h_41 dX3_leaves_79 (fun H locs hP hD hS => ?_)
              have hP : va_P (dC, dI) vwCl (va_pl L (va_up f_30 s9_3 (.inl (kI, 300, .inl (upd g_19 (Int32.toNatClampNeg i2) z_40))))) H := by rw [← va_pls hD9 fs9_3.1 hk_41 _]; exact hP
              have hD : va_D A (va_pl L (va_up f_30 s9_3 (.inl (kI, 300, .inl (upd g_19 (Int32.toNatClampNeg i2) z_40))))) := by rw [← va_pls hD9 fs9_3.1 hk_41 _]; exact hD
              have hPI := hPI.put (e := .inl (kI, 300, .inl (upd g_19 (Int32.toNatClampNeg i2) z_40))) fs9_3 ⟨_, rfl, fw_41⟩
              have es_f_42 : va_up f_30 s9_3 (.inl (kI, 300, .inl (upd g_19 (Int32.toNatClampNeg i2) z_40))) s9_3 = .inl (kI, 300, .inl (upd g_19 (Int32.toNatClampNeg i2) z_40)) := va_up_self _ _ _
              have eq_43 := (va_up_ne f_30 (.inl (kI, 300, .inl (upd g_19 (Int32.toNatClampNeg i2) z_40))) (isr_ne hg0 fs9_3 (by decide))).trans eq_31
              have eq_44 := (va_up_ne f_30 (.inl (kI, 300, .inl (upd g_19 (Int32.toNatClampNeg i2) z_40))) (isr_ne fs1_3 fs9_3 (by decide))).trans eq_32
              have eq_45 := (va_up_ne f_30 (.inl (kI, 300, .inl (upd g_19 (Int32.toNatClampNeg i2) z_40))) (isr_ne fs10_3 fs9_3 (by decide))).trans eq_34
              have eq_46 := (va_up_ne f_30 (.inl (kI, 300, .inl (upd g_19 (Int32.toNatClampNeg i2) z_40))) (isr_ne fs13_3 fs9_3 (by decide))).trans eq_35
              have eq_47 := (va_up_ne f_30 (.inl (kI, 300, .inl (upd g_19 (Int32.toNatClampNeg i2) z_40))) (isr_ne fs14_3 fs9_3 (by decide))).trans eq_36
              have eq_48 := (va_up_ne f_30 (.inl (kI, 300, .inl (upd g_19 (Int32.toNatClampNeg i2) z_40))) (isr_ne fs12_3 fs9_3 (by decide))).trans eq_37
              have eq_49 := (va_up_ne f_30 (.inl (kI, 300, .inl (upd g_19 (Int32.toNatClampNeg i2) z_40))) (isr_ne fs8_3 fs9_3 (by decide))).trans es_f_30
              have hfr := fr_up (S := (sK [10, 18, 19, 20, 21, 22, 23, 24])) (e := .inl (kI, 300, .inl (upd g_19 (Int32.toNatClampNeg i2) z_40))) hfr fs9_3 (by decide)
              have hXL := XL.up (e := .inl (kI, 300, .inl (upd g_19 (Int32.toNatClampNeg i2) z_40))) hXL fs9_3 (by decide) (by decide)
              generalize va_up f_30 s9_3 (.inl (kI, 300, .inl (upd g_19 (Int32.toNatClampNeg i2) z_40))) = f_42 at hP hD hPI es_f_42 eq_43 eq_44 eq_45 eq_46 eq_47 eq_48 eq_49 hfr hXL
              refine lv_aload_n hx hb dX3_leaves_80 rfl (lv_at hl 1 rfl) ?_
              obtain ⟨k_50, hk_50⟩ := va_plg hg0.1 eq_43
              refine va_get (D := (dC, dI)) (ci := 3) (v := .ref s10_3) (C := RX3) (T := TX3) (N := 23) hx hb hts iX3_ hown hK hP k_50 hk_50 rfl 11 (by decide) (hts (.fieldLink RX3 41 "FieldLeavesModel" "leafValue" "[J") (by decide +kernel)) (fun _ h9 => h9) rfl dX3_leaves_81 ?_
              refine lv_iload_n hx hb dX3_leaves_84 rfl (lv_at hl 0 rfl) ?_
              refine lv_aload_n hx hb dX3_leaves_85 rfl (lv_at hl 1 rfl) ?_
              obtain ⟨k_51, hk_51⟩ := va_plg hg0.1 eq_43
              refine va_get (D := (dC, dI)) (ci := 3) (v := .ref s14_3) (C := RX3) (T := TX3) (N := 23) hx hb hts iX3_ hown hK hP k_51 hk_51 rfl 17 (by decide) (hts (.fieldLink RX3 53 "FieldLeavesModel" "newValue" "[J") (by decide +kernel)) (fun _ h9 => h9) rfl dX3_leaves_86 ?_
              refine lv_iload_n hx hb dX3_leaves_89 rfl (lv_at hl 0 rfl) ?_
              obtain ⟨k_52, hk_52⟩ := va_plg fs14_3.1 eq_47
              have h_52 : vp_in i2 300 := (vp_in_iff.mpr (by constructor <;> omega))
              refine va_lald hx hb hK hP k_52 1 hk_52 rfl h_52 dX3_leaves_90 ?_
              refine lv_topl (fun z_52 ez_52 => ?_)
              obtain ⟨k_53, hk_53⟩ := va_plg fs10_3.1 eq_45
              have h_53 : vp_in i2 300 := (vp_in_iff.mpr (by constructor <;> omega))
              have fw_53 := trivial
              have hD9 := hD
              refine va_last hx hb hK hP hD hS k_53 1 hk_53 rfl h_53 dX3_leaves_91 (fun H locs hP hD hS => ?_)
              have hP : va_P (dC, dI) vwCl (va_pl L (va_up f_42 s10_3 (.inl (kJ, 300, .inr (.inl (vp_updL g_20 (Int32.toNatClampNeg i2) z_52)))))) H := by rw [← va_pls hD9 fs10_3.1 hk_53 _]; exact hP
              have hD : va_D A (va_pl L (va_up f_42 s10_3 (.inl (kJ, 300, .inr (.inl (vp_updL g_20 (Int32.toNatClampNeg i2) z_52)))))) := by rw [← va_pls hD9 fs10_3.1 hk_53 _]; exact hD
              have hPI := hPI.put (e := .inl (kJ, 300, .inr (.inl (vp_updL g_20 (Int32.toNatClampNeg i2) z_52)))) fs10_3 ⟨_, rfl, fw_53⟩
              have es_f_54 : va_up f_42 s10_3 (.inl (kJ, 300, .inr (.inl (vp_updL g_20 (Int32.toNatClampNeg i2) z_52)))) s10_3 = .inl (kJ, 300, .inr (.inl (vp_updL g_20 (Int32.toNatClampNeg i2) z_52))) := va_up_self _ _ _
              have eq_55 := (va_up_ne f_42 (.inl (kJ, 300, .inr (.inl (vp_updL g_20 (Int32.toNatClampNeg i2) z_52)))) (isr_ne hg0 fs10_3 (by decide))).trans eq_43
              have eq_56 := (va_up_ne f_42 (.inl (kJ, 300, .inr (.inl (vp_updL g_20 (Int32.toNatClampNeg i2) z_52)))) (isr_ne fs1_3 fs10_3 (by decide))).trans eq_44
              have eq_57 := (va_up_ne f_42 (.inl (kJ, 300, .inr (.inl (vp_updL g_20 (Int32.toNatClampNeg i2) z_52)))) (isr_ne fs13_3 fs10_3 (by decide))).trans eq_46
              have eq_58 := (va_up_ne f_42 (.inl (kJ, 300, .inr (.inl (vp_updL g_20 (Int32.toNatClampNeg i2) z_52)))) (isr_ne fs14_3 fs10_3 (by decide))).trans eq_47
              have eq_59 := (va_up_ne f_42 (.inl (kJ, 300, .inr (.inl (vp_updL g_20 (Int32.toNatClampNeg i2) z_52)))) (isr_ne fs12_3 fs10_3 (by decide))).trans eq_48
              have eq_60 := (va_up_ne f_42 (.inl (kJ, 300, .inr (.inl (vp_updL g_20 (Int32.toNatClampNeg i2) z_52)))) (isr_ne fs8_3 fs10_3 (by decide))).trans eq_49
              have eq_61 := (va_up_ne f_42 (.inl (kJ, 300, .inr (.inl (vp_updL g_20 (Int32.toNatClampNeg i2) z_52)))) (isr_ne fs9_3 fs10_3 (by decide))).trans es_f_42
              have hfr := fr_up (S := (sK [10, 18, 19, 20, 21, 22, 23, 24])) (e := .inl (kJ, 300, .inr (.inl (vp_updL g_20 (Int32.toNatClampNeg i2) z_52)))) hfr fs10_3 (by decide)
              have hXL := XL.up (e := .inl (kJ, 300, .inr (.inl (vp_updL g_20 (Int32.toNatClampNeg i2) z_52)))) hXL fs10_3 (by decide) (by decide)
              generalize va_up f_42 s10_3 (.inl (kJ, 300, .inr (.inl (vp_updL g_20 (Int32.toNatClampNeg i2) z_52)))) = f_54 at hP hD hPI es_f_54 eq_55 eq_56 eq_57 eq_58 eq_59 eq_60 eq_61 hfr hXL
              obtain ⟨i_62, ei_62⟩ : ∃ y : Int32, y = i2 + 1 := ⟨_, rfl⟩
              refine lv_iinc (v := i_62) (lv' := [(2, .int i_62), (0, .ref g0), (1, .int p0)]) hx hb dX3_leaves_92 hl (k := 0) rfl (by rw [ei_62]; rfl) (by decide) rfl (fun ls hl => ?_)
              have ki_62 := inc_toInt ei_62 (by omega)
              refine lv_goto (tgt := 48) hx hb dX3_leaves_95 (by decide) ?_
              exact ih_48 i_62 f_54 _ _ _  (by omega) (by omega) ⟨hfr, ⟨hXL, XL.mk hU fs9_3 fs10_3 eq_61 es_f_54 (xl_new hxm (fun h9 => by have h8 := hxn (Int32.toNatClampNeg i2) (vp_lt (vp_in_iff.mpr (by constructor <;> omega))) (by rw [← ez_40]; exact h9); rw [← ez_52] at h8; exact h8))⟩⟩ hPI hP hD hS (lv_sub hl [0, 1, 2] rfl)
        exact loop_48 301 0 f_15 _ _ _  (by omega) (by omega) ⟨FR.rf, ⟨hXL, hXM⟩⟩ hPI hP hD hS hl
      · refine lv_if_ne (tgt := 38) hx hb dX3_leaves_32 (by decide) (fun c9 => absurd c9 (by decide)) (fun _ => ?_)
        refine lv_bipush (v := (-3)) hx hb dX3_leaves_35 (by decide) ?_
        subst eQ
        exact W.iret (v := (-3)) hx hb hr (fun t ht hW => ⟨⟨(-3), (), rfl, trivial, f_10, hPI, ⟨hfr, hXL, hXM⟩, by rw [ht]; exact hP, hD⟩, hS.F ht⟩) hS.2.2 dX3_leaves_37
    · have c_5 := congrArg Int32.toInt c_5
      refine lv_bipush (v := (-11)) hx hb dX3_leaves_19 (by decide) ?_
      subst eQ
      exact W.iret (v := (-11)) hx hb hr (fun t ht hW => ⟨⟨(-11), (), rfl, trivial, f, hPI, ⟨hfr, hXL, hXM⟩, by rw [ht]; exact hP, hD⟩, hS.F ht⟩) hS.2.2 dX3_leaves_21
  · refine lv_if_ne (tgt := 9) hx hb dX3_leaves_4 (by decide) (fun c9 => absurd c9 (by decide)) (fun _ => ?_)
    refine lv_iconst (v := (-1)) hx hb dX3_leaves_7 (by decide) ?_
    subst eQ
    exact W.iret (v := (-1)) hx hb hr (fun t ht hW => ⟨⟨(-1), (), rfl, trivial, f, hPI, ⟨hfr, hXL, hXM⟩, by rw [ht]; exact hP, hD⟩, hS.F ht⟩) hS.2.2 dX3_leaves_8
