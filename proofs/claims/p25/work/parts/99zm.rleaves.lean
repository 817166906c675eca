def rv_leaves (fS fC : Nat → Int32) (fF : Nat → Int64) (fR fW lo ld : Nat → Int32) (lv : Nat → Int64) (lm s : Int32) (lo2 ld2 : Nat → Int32) (lv2 : Nat → Int64) (lm2 : Int32) : Prop := if (0 ≤ s.toInt ∧ s.toInt < 12) ∧ ¬ (fS (Int32.toNatClampNeg s)).toInt = -1 then (match tlS (-4) fC (r_vl fC fF) (r_lk fC fF) (r_rw fC fR fW) (Int32.toNatClampNeg (fS (Int32.toNatClampNeg s))) with
  | none => lo2 = lo ∧ ld2 = ld ∧ lv2 = lv ∧ lm2 = lm
  | some l => LSv lm2 lo2 ld2 lv2 l) else lo2 = lo ∧ ld2 = ld ∧ lv2 = lv ∧ lm2 = lm
def rs_leaves (fS fC : Nat → Int32) (fF : Nat → Int64) (fR fW : Nat → Int32) (s r : Int32) : Prop := if 0 ≤ s.toInt ∧ s.toInt < 12 then (if (fS (Int32.toNatClampNeg s)).toInt = -1 then r = -11 else (match tlS (-4) fC (r_vl fC fF) (r_lk fC fF) (r_rw fC fR fW) (Int32.toNatClampNeg (fS (Int32.toNatClampNeg s))) with
  | none => r = -3
  | some l => r.toInt = (l.length : Int))) else r = -1
section LVS
variable {z z2 : Int32} {n d n2 d2 : Nat → Int32} {v v2 : Nat → Int64} {l : List (Int32 × Int32 × Int64)} {i i2 : Int32}
theorem LSv.agree (h : LSv z n d v l) (ez : z2.toInt = z.toInt) (ha : ∀ j : Nat, (j : Int) < z.toInt → n2 j = n j ∧ d2 j = d j ∧ v2 j = v j) : LSv z2 n2 d2 v2 l := by
  refine ⟨ez.trans h.1, fun i a b c e => ?_⟩
  have hi := (List.getElem?_eq_some_iff.mp e).1
  have h1 := ha i (by have := h.1; omega)
  rw [h1.1, h1.2.1, h1.2.2]
  exact h.2 i a b c e
theorem cp3_step {a b : Int32} {c : Int64} (h : ∀ j : Nat, (j : Int) < i.toInt → n2 j = n j ∧ d2 j = d j ∧ v2 j = v j) (h0 : 0 ≤ i.toInt) (ea : a = n (Int32.toNatClampNeg i)) (eb : b = d (Int32.toNatClampNeg i)) (ec : c = v (Int32.toNatClampNeg i)) (e : i2.toInt = i.toInt + 1) : ∀ j : Nat, (j : Int) < i2.toInt → upd n2 (Int32.toNatClampNeg i) a j = n j ∧ upd d2 (Int32.toNatClampNeg i) b j = d j ∧ vp_updL v2 (Int32.toNatClampNeg i) c j = v j := fun j hj => by
  have hc := clamp_int h0
  by_cases q : j = Int32.toNatClampNeg i
  · rw [q, pk_us, pk_us, pk_uLs]
    exact ⟨ea, eb, ec⟩
  · rw [pk_un q, pk_un q, pk_uLn q]
    exact h j (by omega)
end LVS
set_option maxRecDepth 20000 in
theorem in_v_X3_leaves_X3 : ∀ w ∈ u_ws RX3 TX3 23, w ∈ wsX3_leaves := by decide +kernel
set_option maxRecDepth 100000 in
set_option maxHeartbeats 4000000 in
theorem v_X3_leaves (l : Launch) (dC : Nat → ClassId) (dI : Nat → Nat → Nat) (TT : Nat × Nat × Nat) (sz : Nat) (kI kJ kZ : ClassId) (K : Nat → Nat) (L : List Nat) (f : Nat → va_E) (hPI : PR kI kJ kZ K L f) (g0 : Nat) (hg0 : isr K L 10 g0) (p0 : Int32) (hU : UN K L) (fS fC : Nat → Int32) (fF : Nat → Int64) (fR fW lo ld : Nat → Int32) (lv : Nat → Int64) (lm pa : Int32) (hRV : RV kI kJ K L f g0 fS fC fF fR fW lo ld lv lm pa) : Met l yX3_leaves wsX3_leaves ({ frames := 3, cells := 0, slots := 0, locals := 75 } : Room) (va_Pc [.ref g0, .int p0] (pr dC dI (va_pl L f) (va_pl L f) [(kI, .int), (kJ, .long), (kZ, .boolean)] sz TT)) (va_Qi (fun (r : Int32) (u : Unit) => rs_leaves fS fC fF fR fW p0 r) (fun (_ : Unit) t => ∃ f2 : Nat → va_E, PR kI kJ kZ K L f2 ∧ (FR (sK [10, 18, 19, 20, 21, 22, 23, 24]) K L f f2 ∧ ∃ (lo2 ld2 : Nat → Int32) (lv2 : Nat → Int64) (lm2 : Int32), rv_leaves fS fC fF fR fW lo ld lv lm p0 lo2 ld2 lv2 lm2 ∧ RV kI kJ K L f2 g0 fS fC fF fR fW lo2 ld2 lv2 lm2 pa) ∧ va_P (dC, dI) vwCl (va_pl L f2) t.heap ∧ va_D (va_A (va_pl L f) sz) (va_pl L f2)) (va_A (va_pl L f) sz)) 0 0 (va_A (va_pl L f) sz) := by
  refine Met.ofW (cc := cX3_leaves) (maxL := 3) (ret := (some .int)) (by decide) rfl ?_
  intro p e s m args below meth c s₁ B hml hv
  obtain ⟨rfl, hsz, hP, hK, hD0, hst⟩ := hv
  have hx := B.exec
  have hb := B.bytes
  have hr := B.returns
  have hts := atoms_spec (ws := wsX3_leaves) B.pre
  have hown : s.vm.findClass RX3 = some m.cls := findClass_of_methodNamed B.named
  have hlocks := B.notSynchronized
  have iX3_ := in_v_X3_leaves_X3
  subst hsz
  have hD := hD0.self (sz := s.heap.size)
  generalize hAe : va_A (va_pl L f) s.heap.size = A at hD hst ⊢
  have hA : ∀ q : Nat, s.heap.size ≤ q → A q := fun q h => by rw [← hAe]; exact Or.inr h
  have hS : va_S A s.heap s.heap [] := va_S.rf
  have hl := lv_entry ([.ref g0, .int p0]) (n := 3) (Nat.le_of_ble_eq_true rfl)
  rw [lg_entry_eq]
  generalize (lg_sl ([.ref g0, .int p0]) ++ List.replicate (3 - (lg_sl ([.ref g0, .int p0])).length) Slot.unset).toArray = ls at hl ⊢
  have hl : lv_has ls 3 [(0, .ref g0), (1, .int p0)] := hl
  have km11_ : Int32.toInt (-11) = -11 := by decide
  have km3_ : Int32.toInt (-3) = -3 := by decide
  have km1_ : Int32.toInt (-1) = -1 := by decide
  have k0_ : Int32.toInt 0 = 0 := by decide
  have hfr : FR (sK [10, 18, 19, 20, 21, 22, 23, 24]) K L f f := FR.rf
  refine W_nameQ (fun Q0 eQ => ?_)
  (refine hPI.a10E hg0 ?_; intro s1_1 s2_1 s3_1 s4_1 s5_1 s6_1 s7_1 pa_1 lm_1 s8_1 s9_1 s10_1 fm_1 s11_1 nm_1 s12_1 s13_1 s14_1 rm_1 s15_1 s16_1 s17_1 s18_1 e_1 fs1_1 fs2_1 fs3_1 fs4_1 fs5_1 fs6_1 fs7_1 flm_1 fs8_1 fs9_1 fs10_1 ffm_1 fs11_1 fnm_1 fs12_1 fs13_1 fs14_1 frm_1 fs15_1 fs16_1 fs17_1 fs18_1)
  obtain ⟨k_1, hk_1⟩ := va_plg hg0.1 e_1
  have eg11 := hRV.1.1 s1_1 fs1_1
  have fg11 := (hPI.a11 fs1_1).of eg11
  have eg12 := hRV.1.2.1 s2_1 fs2_1
  have fg12 := (hPI.a12 fs2_1).of eg12
  have eg13 := hRV.1.2.2 s3_1 fs3_1
  have fg13 := (hPI.a13 fs3_1).of eg13
  have eg14 := hRV.2.1.1 s4_1 fs4_1
  have fg14 := (hPI.a14 fs4_1).of eg14
  have eg15 := hRV.2.1.2 s5_1 fs5_1
  have fg15 := (hPI.a15 fs5_1).of eg15
  have eg18 := hRV.2.2.1.1 s8_1 fs8_1
  have fg18 := (hPI.a18 fs8_1).of eg18
  have eg19 := hRV.2.2.1.2.1 s9_1 fs9_1
  have fg19 := (hPI.a19 fs9_1).of eg19
  have eg20 := hRV.2.2.1.2.2 s10_1 fs10_1
  have fg20 := (hPI.a20 fs10_1).of eg20
  obtain rfl : lm_1 = lm := (show cI (f g0) 8 = _ from by rw [e_1]; rfl).symm.trans hRV.2.2.2.1
  obtain rfl : pa_1 = pa := (show cI (f g0) 7 = _ from by rw [e_1]; rfl).symm.trans hRV.2.2.2.2
  have hKQ := KQ2.rf (f := f) (g := g0)
  refine lv_iload_n hx hb dX3_leaves_0 rfl (lv_at hl 1 rfl) ?_
  refine va_calli (va_runS (As := [.int p0]) (rest := []) ⟨hx, hb, hml, hown, hts⟩ (c_X3_isSlot l dC dI TT s.heap.size p0) (va_cwS 1 hts gX3_leaves_X3_isSlot rfl rfl rfl (by decide +kernel) ⟨Nat.le_of_ble_eq_true rfl, Nat.le_of_ble_eq_true rfl⟩) (pr_S (ws := []) (wA := []) (tys := []) vp_nil (hK.sub [] rfl) vd_nil hst hS (ro_free hS hA)) rfl rfl hl.1 rfl (lv_room (Nat.le_of_ble_eq_true rfl)) dX3_leaves_1 ⟨Nat.le_of_ble_eq_true rfl, Nat.le_of_ble_eq_true rfl⟩) hS (fun q _ h => (ro_free hS hA) q h) (ro_free hS hA) (fun r_2 u t H1 locs ht hvm hw hB hz1 hk1 hS => ?_)
  have hP := ro_keep hP hk1
  generalize H1 = H at hP hS ⊢
  rcases hw with ⟨rfl, hp_3⟩ | ⟨rfl, hp_3⟩
  · refine lv_if_ne (tgt := 9) hx hb dX3_leaves_4 (by decide) (fun _ => ?_) (fun c9 => absurd c9 (by decide))
    refine lv_aload_n hx hb dX3_leaves_9 rfl (lv_at hl 0 rfl) ?_
    obtain ⟨k_4, hk_4⟩ := va_plg hg0.1 e_1
    refine va_get (D := (dC, dI)) (ci := 3) (v := .ref s1_1) (C := RX3) (T := TX3) (N := 23) hx hb hts iX3_ hown hK hP k_4 hk_4 rfl 0 (by decide) (hts (.fieldLink RX3 7 "FieldLeavesModel" "slot" "[I") (by decide +kernel)) (fun _ h9 => h9) rfl dX3_leaves_10 ?_
    refine lv_iload_n hx hb dX3_leaves_13 rfl (lv_at hl 1 rfl) ?_
    obtain ⟨k_5, hk_5⟩ := va_plg fs1_1.1 eg11
    have h_5 : vp_in p0 12 := (vp_in_iff.mpr (by constructor <;> omega))
    refine va_iald hx hb hK hP k_5 0 hk_5 rfl h_5 dX3_leaves_14 ?_
    refine lv_topi (fun z_5 ez_5 => ?_)
    have fz_5 := fg11 _ (vp_lt h_5)
    rw [← ez_5] at fz_5
    have hdez_5 := congrArg Int32.toInt ez_5
    refine lv_iconst (v := (-1)) hx hb dX3_leaves_15 (by decide) ?_
    refine lv_icmp_ne (tgt := 22) hx hb dX3_leaves_16 (by decide) (fun c_6 => ?_) (fun c_6 => ?_)
    · have c_6 := mt Int32.toInt_inj.mp c_6
      refine lv_aload_n hx hb dX3_leaves_22 rfl (lv_at hl 0 rfl) ?_
      refine lv_aload_n hx hb dX3_leaves_23 rfl (lv_at hl 0 rfl) ?_
      obtain ⟨k_7, hk_7⟩ := va_plg hg0.1 e_1
      refine va_get (D := (dC, dI)) (ci := 3) (v := .ref s1_1) (C := RX3) (T := TX3) (N := 23) hx hb hts iX3_ hown hK hP k_7 hk_7 rfl 0 (by decide) (hts (.fieldLink RX3 7 "FieldLeavesModel" "slot" "[I") (by decide +kernel)) (fun _ h9 => h9) rfl dX3_leaves_24 ?_
      refine lv_iload_n hx hb dX3_leaves_27 rfl (lv_at hl 1 rfl) ?_
      obtain ⟨k_8, hk_8⟩ := va_plg fs1_1.1 eg11
      have h_8 : vp_in p0 12 := (vp_in_iff.mpr (by constructor <;> omega))
      refine va_iald hx hb hK hP k_8 0 hk_8 rfl h_8 dX3_leaves_28 ?_
      refine lv_topi (fun z_8 ez_8 => ?_)
      obtain rfl : z_5 = z_8 := ez_5.trans ez_8.symm
      have hRV9 := hRV
      have hFc := pl_free hD hS hA
      obtain ⟨k_9, hk_9⟩ := va_plg hg0.1 e_1
      refine va_calli (va_runV (b := g0) (As := [.int z_5]) (rest := []) ⟨hx, hb, hml, hown, hts⟩ (v_X3_find l dC dI TT H.size kI kJ kZ K L f hPI g0 hg0 z_5 (by constructor <;> omega) hU fS fC fF fR fW lo ld lv lm_1 pa_1 hRV9) (cwV 1 hts gX3_leaves_X3_find rfl rfl rfl (by decide +kernel) ⟨Nat.le_of_ble_eq_true rfl, Nat.le_of_ble_eq_true rfl⟩) ⟨pr_blind, va_recv hK hP (ci := 3) rfl hk_9, (pr_S (ws := va_pl L f) (wA := va_pl L f) (tys := [(kI, .int), (kJ, .long), (kZ, .boolean)]) hP hK (hD.weaken (fun _ _ _ _ => trivial)) hst hS hFc).2⟩ rfl rfl hl.1 rfl (lv_room (Nat.le_of_ble_eq_true rfl)) dX3_leaves_29 ⟨Nat.le_of_ble_eq_true rfl, Nat.le_of_ble_eq_true rfl⟩) hS (fun q _ h => hFc q h) hFc (fun r_10 u t H1 locs ht hvm hw hB hz1 hk1 hS => ?_)
      obtain ⟨f_11, hPI, hrel, hP, hD9⟩ := hB
      rw [ht] at hP
      have hD := hD9.weaken (fun _ q _ h => hFc q.1 h)
      obtain ⟨hrelF, hrel⟩ := hrel
      have eq_12 := (hrelF s1_1 fs1_1.1 (by rw [fs1_1.2]; rfl)).trans eg11
      have eq_13 := (hrelF s2_1 fs2_1.1 (by rw [fs2_1.2]; rfl)).trans eg12
      have eq_14 := (hrelF s3_1 fs3_1.1 (by rw [fs3_1.2]; rfl)).trans eg13
      have eq_15 := (hrelF s4_1 fs4_1.1 (by rw [fs4_1.2]; rfl)).trans eg14
      have eq_16 := (hrelF s5_1 fs5_1.1 (by rw [fs5_1.2]; rfl)).trans eg15
      have eq_17 := (hrelF s8_1 fs8_1.1 (by rw [fs8_1.2]; rfl)).trans eg18
      have eq_18 := (hrelF s9_1 fs9_1.1 (by rw [fs9_1.2]; rfl)).trans eg19
      have eq_19 := (hrelF s10_1 fs10_1.1 (by rw [fs10_1.2]; rfl)).trans eg20
      have hfr := FR.tr hfr hrelF (sK_sub (by decide))
      generalize H1 = H at hP hS ⊢
      obtain ⟨hKQ1, hNL⟩ := hrel
      have hKQ := hKQ.tr hKQ1
      rcases hw with ⟨rfl, hp_20⟩ | ⟨rfl, hp_20⟩
      · obtain ⟨lz, hlz⟩ := Option.ne_none_iff_exists'.mp hp_20
        have hNL := hNL lz hlz
        refine lv_if_ne (tgt := 38) hx hb dX3_leaves_32 (by decide) (fun _ => ?_) (fun c9 => absurd c9 (by decide))
        obtain ⟨no, nd, nv, ⟨hr22, hr23, hr24⟩, hLS⟩ := hNL
        (refine hPI.a10E hg0 ?_; intro s1_21 s2_21 s3_21 s4_21 s5_21 s6_21 s7_21 pa_21 lm_21 s8_21 s9_21 s10_21 fm_21 s11_21 nm_21 s12_21 s13_21 s14_21 rm_21 s15_21 s16_21 s17_21 s18_21 e_21 fs1_21 fs2_21 fs3_21 fs4_21 fs5_21 fs6_21 fs7_21 flm_21 fs8_21 fs9_21 fs10_21 ffm_21 fs11_21 fnm_21 fs12_21 fs13_21 fs14_21 frm_21 fs15_21 fs16_21 fs17_21 fs18_21)
        obtain ⟨k_21, hk_21⟩ := va_plg hg0.1 e_21
        obtain rfl : s1_1 = s1_21 := hU _ _ fs1_1.1 fs1_21.1 (fs1_1.2.trans fs1_21.2.symm)
        obtain rfl : s2_1 = s2_21 := hU _ _ fs2_1.1 fs2_21.1 (fs2_1.2.trans fs2_21.2.symm)
        obtain rfl : s3_1 = s3_21 := hU _ _ fs3_1.1 fs3_21.1 (fs3_1.2.trans fs3_21.2.symm)
        obtain rfl : s4_1 = s4_21 := hU _ _ fs4_1.1 fs4_21.1 (fs4_1.2.trans fs4_21.2.symm)
        obtain rfl : s5_1 = s5_21 := hU _ _ fs5_1.1 fs5_21.1 (fs5_1.2.trans fs5_21.2.symm)
        obtain rfl : s6_1 = s6_21 := hU _ _ fs6_1.1 fs6_21.1 (fs6_1.2.trans fs6_21.2.symm)
        obtain rfl : s7_1 = s7_21 := hU _ _ fs7_1.1 fs7_21.1 (fs7_1.2.trans fs7_21.2.symm)
        obtain rfl : s8_1 = s8_21 := hU _ _ fs8_1.1 fs8_21.1 (fs8_1.2.trans fs8_21.2.symm)
        obtain rfl : s9_1 = s9_21 := hU _ _ fs9_1.1 fs9_21.1 (fs9_1.2.trans fs9_21.2.symm)
        obtain rfl : s10_1 = s10_21 := hU _ _ fs10_1.1 fs10_21.1 (fs10_1.2.trans fs10_21.2.symm)
        obtain rfl : s11_1 = s11_21 := hU _ _ fs11_1.1 fs11_21.1 (fs11_1.2.trans fs11_21.2.symm)
        obtain rfl : s12_1 = s12_21 := hU _ _ fs12_1.1 fs12_21.1 (fs12_1.2.trans fs12_21.2.symm)
        obtain rfl : s13_1 = s13_21 := hU _ _ fs13_1.1 fs13_21.1 (fs13_1.2.trans fs13_21.2.symm)
        obtain rfl : s14_1 = s14_21 := hU _ _ fs14_1.1 fs14_21.1 (fs14_1.2.trans fs14_21.2.symm)
        obtain rfl : s15_1 = s15_21 := hU _ _ fs15_1.1 fs15_21.1 (fs15_1.2.trans fs15_21.2.symm)
        obtain rfl : s16_1 = s16_21 := hU _ _ fs16_1.1 fs16_21.1 (fs16_1.2.trans fs16_21.2.symm)
        obtain rfl : s17_1 = s17_21 := hU _ _ fs17_1.1 fs17_21.1 (fs17_1.2.trans fs17_21.2.symm)
        obtain rfl : s18_1 = s18_21 := hU _ _ fs18_1.1 fs18_21.1 (fs18_1.2.trans fs18_21.2.symm)
        have eg_22 := hr22 s12_1 fs12_1
        have fg_22 := (hPI.a22 fs12_1).of eg_22
        have eg_23 := hr23 s13_1 fs13_1
        have fg_23 := (hPI.a23 fs13_1).of eg_23
        have eg_24 := hr24 s14_1 fs14_1
        have fg_24 := (hPI.a24 fs14_1).of eg_24
        have hk7 : pa_21 = cI (f g0) 7 := by rw [← hKQ.1, e_21]; rfl
        rw [(show cI (f_11 g0) 14 = nm_21 from by rw [e_21]; rfl)] at hLS
        refine lv_aload_n hx hb dX3_leaves_38 rfl (lv_at hl 0 rfl) ?_
        refine lv_aload_n hx hb dX3_leaves_39 rfl (lv_at hl 0 rfl) ?_
        obtain ⟨k_25, hk_25⟩ := va_plg hg0.1 e_21
        refine va_get (D := (dC, dI)) (ci := 3) (v := .int nm_21) (C := RX3) (T := TX3) (N := 23) hx hb hts iX3_ hown hK hP k_25 hk_25 rfl 14 (by decide) (hts (.fieldLink RX3 160 "FieldLeavesModel" "newMany" "I") (by decide +kernel)) (fun _ h9 => h9) rfl dX3_leaves_40 ?_
        obtain ⟨k_26, hk_26⟩ := va_plg hg0.1 e_21
        have hD9 := hD
        have rg_27 : 0 ≤ Int32.toInt nm_21 ∧ Int32.toInt nm_21 ≤ 300 := by constructor <;> omega
        refine va_put (D := (dC, dI)) (ci := 3) (v := .int nm_21) (ty := .int) (C := RX3) (T := TX3) (N := 23) hx hb hts iX3_ tyX3 tyX3_ok nmX3 hown hK hP hD hS k_26 hk_26 rfl 8 (by decide) (hts (.fieldLink RX3 184 "FieldLeavesModel" "leafMany" "I") (by decide +kernel)) (fun _ h9 => h9) rfl (by decide +kernel) rfl rfl (Nat.le_of_ble_eq_true rfl) dX3_leaves_43 (fun H locs hP hD hS => ?_)
        have hP : va_P (dC, dI) vwCl (va_pl L (va_up f_11 g0 (.inr (3, [.ref s1_1, .ref s2_1, .ref s3_1, .ref s4_1, .ref s5_1, .ref s6_1, .ref s7_1, .int pa_21, .int nm_21, .ref s8_1, .ref s9_1, .ref s10_1, .int fm_21, .ref s11_1, .int nm_21, .ref s12_1, .ref s13_1, .ref s14_1, .int rm_21, .ref s15_1, .ref s16_1, .ref s17_1, .ref s18_1])))) H := by rw [← va_pls hD9 hg0.1 hk_26 _]; exact hP
        have hD : va_D A (va_pl L (va_up f_11 g0 (.inr (3, [.ref s1_1, .ref s2_1, .ref s3_1, .ref s4_1, .ref s5_1, .ref s6_1, .ref s7_1, .int pa_21, .int nm_21, .ref s8_1, .ref s9_1, .ref s10_1, .int fm_21, .ref s11_1, .int nm_21, .ref s12_1, .ref s13_1, .ref s14_1, .int rm_21, .ref s15_1, .ref s16_1, .ref s17_1, .ref s18_1])))) := by rw [← va_pls hD9 hg0.1 hk_26 _]; exact hD
        have hPI := hPI.put (e := .inr (3, [.ref s1_1, .ref s2_1, .ref s3_1, .ref s4_1, .ref s5_1, .ref s6_1, .ref s7_1, .int pa_21, .int nm_21, .ref s8_1, .ref s9_1, .ref s10_1, .int fm_21, .ref s11_1, .int nm_21, .ref s12_1, .ref s13_1, .ref s14_1, .int rm_21, .ref s15_1, .ref s16_1, .ref s17_1, .ref s18_1])) hg0 ⟨s1_1, s2_1, s3_1, s4_1, s5_1, s6_1, s7_1, pa_21, nm_21, s8_1, s9_1, s10_1, fm_21, s11_1, nm_21, s12_1, s13_1, s14_1, rm_21, s15_1, s16_1, s17_1, s18_1, rfl, fs1_1, fs2_1, fs3_1, fs4_1, fs5_1, fs6_1, fs7_1, rg_27, fs8_1, fs9_1, fs10_1, ffm_21, fs11_1, fnm_21, fs12_1, fs13_1, fs14_1, frm_21, fs15_1, fs16_1, fs17_1, fs18_1⟩
        have es_f_28 : va_up f_11 g0 (.inr (3, [.ref s1_1, .ref s2_1, .ref s3_1, .ref s4_1, .ref s5_1, .ref s6_1, .ref s7_1, .int pa_21, .int nm_21, .ref s8_1, .ref s9_1, .ref s10_1, .int fm_21, .ref s11_1, .int nm_21, .ref s12_1, .ref s13_1, .ref s14_1, .int rm_21, .ref s15_1, .ref s16_1, .ref s17_1, .ref s18_1])) g0 = .inr (3, [.ref s1_1, .ref s2_1, .ref s3_1, .ref s4_1, .ref s5_1, .ref s6_1, .ref s7_1, .int pa_21, .int nm_21, .ref s8_1, .ref s9_1, .ref s10_1, .int fm_21, .ref s11_1, .int nm_21, .ref s12_1, .ref s13_1, .ref s14_1, .int rm_21, .ref s15_1, .ref s16_1, .ref s17_1, .ref s18_1]) := va_up_self _ _ _
        have eq_29 := (va_up_ne f_11 (.inr (3, [.ref s1_1, .ref s2_1, .ref s3_1, .ref s4_1, .ref s5_1, .ref s6_1, .ref s7_1, .int pa_21, .int nm_21, .ref s8_1, .ref s9_1, .ref s10_1, .int fm_21, .ref s11_1, .int nm_21, .ref s12_1, .ref s13_1, .ref s14_1, .int rm_21, .ref s15_1, .ref s16_1, .ref s17_1, .ref s18_1])) (isr_ne fs1_1 hg0 (by decide))).trans eq_12
        have eq_30 := (va_up_ne f_11 (.inr (3, [.ref s1_1, .ref s2_1, .ref s3_1, .ref s4_1, .ref s5_1, .ref s6_1, .ref s7_1, .int pa_21, .int nm_21, .ref s8_1, .ref s9_1, .ref s10_1, .int fm_21, .ref s11_1, .int nm_21, .ref s12_1, .ref s13_1, .ref s14_1, .int rm_21, .ref s15_1, .ref s16_1, .ref s17_1, .ref s18_1])) (isr_ne fs2_1 hg0 (by decide))).trans eq_13
        have eq_31 := (va_up_ne f_11 (.inr (3, [.ref s1_1, .ref s2_1, .ref s3_1, .ref s4_1, .ref s5_1, .ref s6_1, .ref s7_1, .int pa_21, .int nm_21, .ref s8_1, .ref s9_1, .ref s10_1, .int fm_21, .ref s11_1, .int nm_21, .ref s12_1, .ref s13_1, .ref s14_1, .int rm_21, .ref s15_1, .ref s16_1, .ref s17_1, .ref s18_1])) (isr_ne fs3_1 hg0 (by decide))).trans eq_14
        have eq_32 := (va_up_ne f_11 (.inr (3, [.ref s1_1, .ref s2_1, .ref s3_1, .ref s4_1, .ref s5_1, .ref s6_1, .ref s7_1, .int pa_21, .int nm_21, .ref s8_1, .ref s9_1, .ref s10_1, .int fm_21, .ref s11_1, .int nm_21, .ref s12_1, .ref s13_1, .ref s14_1, .int rm_21, .ref s15_1, .ref s16_1, .ref s17_1, .ref s18_1])) (isr_ne fs4_1 hg0 (by decide))).trans eq_15
        have eq_33 := (va_up_ne f_11 (.inr (3, [.ref s1_1, .ref s2_1, .ref s3_1, .ref s4_1, .ref s5_1, .ref s6_1, .ref s7_1, .int pa_21, .int nm_21, .ref s8_1, .ref s9_1, .ref s10_1, .int fm_21, .ref s11_1, .int nm_21, .ref s12_1, .ref s13_1, .ref s14_1, .int rm_21, .ref s15_1, .ref s16_1, .ref s17_1, .ref s18_1])) (isr_ne fs5_1 hg0 (by decide))).trans eq_16
        have eq_34 := (va_up_ne f_11 (.inr (3, [.ref s1_1, .ref s2_1, .ref s3_1, .ref s4_1, .ref s5_1, .ref s6_1, .ref s7_1, .int pa_21, .int nm_21, .ref s8_1, .ref s9_1, .ref s10_1, .int fm_21, .ref s11_1, .int nm_21, .ref s12_1, .ref s13_1, .ref s14_1, .int rm_21, .ref s15_1, .ref s16_1, .ref s17_1, .ref s18_1])) (isr_ne fs8_1 hg0 (by decide))).trans eq_17
        have eq_35 := (va_up_ne f_11 (.inr (3, [.ref s1_1, .ref s2_1, .ref s3_1, .ref s4_1, .ref s5_1, .ref s6_1, .ref s7_1, .int pa_21, .int nm_21, .ref s8_1, .ref s9_1, .ref s10_1, .int fm_21, .ref s11_1, .int nm_21, .ref s12_1, .ref s13_1, .ref s14_1, .int rm_21, .ref s15_1, .ref s16_1, .ref s17_1, .ref s18_1])) (isr_ne fs9_1 hg0 (by decide))).trans eq_18
        have eq_36 := (va_up_ne f_11 (.inr (3, [.ref s1_1, .ref s2_1, .ref s3_1, .ref s4_1, .ref s5_1, .ref s6_1, .ref s7_1, .int pa_21, .int nm_21, .ref s8_1, .ref s9_1, .ref s10_1, .int fm_21, .ref s11_1, .int nm_21, .ref s12_1, .ref s13_1, .ref s14_1, .int rm_21, .ref s15_1, .ref s16_1, .ref s17_1, .ref s18_1])) (isr_ne fs10_1 hg0 (by decide))).trans eq_19
        have eq_37 := (va_up_ne f_11 (.inr (3, [.ref s1_1, .ref s2_1, .ref s3_1, .ref s4_1, .ref s5_1, .ref s6_1, .ref s7_1, .int pa_21, .int nm_21, .ref s8_1, .ref s9_1, .ref s10_1, .int fm_21, .ref s11_1, .int nm_21, .ref s12_1, .ref s13_1, .ref s14_1, .int rm_21, .ref s15_1, .ref s16_1, .ref s17_1, .ref s18_1])) (isr_ne fs12_1 hg0 (by decide))).trans eg_22
        have eq_38 := (va_up_ne f_11 (.inr (3, [.ref s1_1, .ref s2_1, .ref s3_1, .ref s4_1, .ref s5_1, .ref s6_1, .ref s7_1, .int pa_21, .int nm_21, .ref s8_1, .ref s9_1, .ref s10_1, .int fm_21, .ref s11_1, .int nm_21, .ref s12_1, .ref s13_1, .ref s14_1, .int rm_21, .ref s15_1, .ref s16_1, .ref s17_1, .ref s18_1])) (isr_ne fs13_1 hg0 (by decide))).trans eg_23
        have eq_39 := (va_up_ne f_11 (.inr (3, [.ref s1_1, .ref s2_1, .ref s3_1, .ref s4_1, .ref s5_1, .ref s6_1, .ref s7_1, .int pa_21, .int nm_21, .ref s8_1, .ref s9_1, .ref s10_1, .int fm_21, .ref s11_1, .int nm_21, .ref s12_1, .ref s13_1, .ref s14_1, .int rm_21, .ref s15_1, .ref s16_1, .ref s17_1, .ref s18_1])) (isr_ne fs14_1 hg0 (by decide))).trans eg_24
        have hfr := fr_up (S := (sK [10, 18, 19, 20, 21, 22, 23, 24])) (e := .inr (3, [.ref s1_1, .ref s2_1, .ref s3_1, .ref s4_1, .ref s5_1, .ref s6_1, .ref s7_1, .int pa_21, .int nm_21, .ref s8_1, .ref s9_1, .ref s10_1, .int fm_21, .ref s11_1, .int nm_21, .ref s12_1, .ref s13_1, .ref s14_1, .int rm_21, .ref s15_1, .ref s16_1, .ref s17_1, .ref s18_1])) hfr hg0 (by decide)
        generalize hg_f_28 : va_up f_11 g0 (.inr (3, [.ref s1_1, .ref s2_1, .ref s3_1, .ref s4_1, .ref s5_1, .ref s6_1, .ref s7_1, .int pa_21, .int nm_21, .ref s8_1, .ref s9_1, .ref s10_1, .int fm_21, .ref s11_1, .int nm_21, .ref s12_1, .ref s13_1, .ref s14_1, .int rm_21, .ref s15_1, .ref s16_1, .ref s17_1, .ref s18_1])) = f_28 at hP hD hPI es_f_28 eq_29 eq_30 eq_31 eq_32 eq_33 eq_34 eq_35 eq_36 eq_37 eq_38 eq_39 hfr
        refine lv_iconst (v := 0) hx hb dX3_leaves_46 (by decide) ?_
        refine lv_istore_n (lv' := [(2, .int 0), (0, .ref g0), (1, .int p0)]) hx hb dX3_leaves_47 rfl hl (by decide) rfl (fun ls hl => ?_)
        have hfrE48 := hfr
        have loop_48 : ∀ (n : Nat) (i2 : Int32)   (fl : Nat → va_E) (H : Heap) (locs : List Loc) (ls : Array Slot), (0 ≤ i2.toInt ∧ i2.toInt ≤ 300) → (300 - i2.toInt).toNat < n → (FR (sK [10, 18, 19, 20, 21, 22, 23, 24]) K L f_28 fl ∧ (∃ (lo2 ld2 : Nat → Int32) (lv2 : Nat → Int64) (no nd : Nat → Int32) (nv : Nat → Int64), (((∀ q, isr K L 18 q → fl q = .inl (kI, 300, .inl lo2)) ∧ (∀ q, isr K L 19 q → fl q = .inl (kI, 300, .inl ld2)) ∧ ∀ q, isr K L 20 q → fl q = .inl (kJ, 300, .inr (.inl lv2))) ∧ ((∀ q, isr K L 22 q → fl q = .inl (kI, 300, .inl no)) ∧ (∀ q, isr K L 23 q → fl q = .inl (kI, 300, .inl nd)) ∧ ∀ q, isr K L 24 q → fl q = .inl (kJ, 300, .inr (.inl nv)))) ∧ LSv (cI (fl g0) 14) no nd nv lz ∧ cI (fl g0) 8 = cI (fl g0) 14 ∧ cI (fl g0) 7 = cI (f g0) 7 ∧ ∀ j : Nat, (j : Int) < i2.toInt → lo2 j = no j ∧ ld2 j = nd j ∧ lv2 j = nv j)) → PR kI kJ kZ K L fl → va_P (dC, dI) vwCl (va_pl L fl) H → va_D A (va_pl L fl) → va_S A s.heap H locs → lv_has ls 3 [(2, .int i2), (0, .ref g0), (1, .int p0)] → W p l e (headSpec wsX3_leaves ({ frames := 3, cells := 0, slots := 0, locals := 75 } : Room)).room s m (([.ref g0, .int p0] : List Value).toArray) below meth c H locs 0 0 Q0 (F0 m 48 ls []) := by
          intro n
          induction n with
          | zero => intro i2 fl H locs ls  _ h9; exact absurd h9 (Nat.not_lt_zero _)
          | succ n ih_48 =>
            intro i2 fl H locs ls  hI hM hFN hPI hP hD hS hl
            obtain ⟨hfr, hFN⟩ := hFN
            have eq_40 := (hfr s1_1 fs1_1.1 (by rw [fs1_1.2]; rfl)).trans eq_29
            have eq_41 := (hfr s2_1 fs2_1.1 (by rw [fs2_1.2]; rfl)).trans eq_30
            have eq_42 := (hfr s3_1 fs3_1.1 (by rw [fs3_1.2]; rfl)).trans eq_31
            have eq_43 := (hfr s4_1 fs4_1.1 (by rw [fs4_1.2]; rfl)).trans eq_32
            have eq_44 := (hfr s5_1 fs5_1.1 (by rw [fs5_1.2]; rfl)).trans eq_33
            obtain ⟨lo2, ld2, lv2, no, nd, nv, ⟨⟨hr18, hr19, hr20⟩, ⟨hr22, hr23, hr24⟩⟩, hLS, hv8, hv7, hcp⟩ := hFN
            (refine hPI.a10E hg0 ?_; intro s1_45 s2_45 s3_45 s4_45 s5_45 s6_45 s7_45 pa_45 lm_45 s8_45 s9_45 s10_45 fm_45 s11_45 nm_45 s12_45 s13_45 s14_45 rm_45 s15_45 s16_45 s17_45 s18_45 e_45 fs1_45 fs2_45 fs3_45 fs4_45 fs5_45 fs6_45 fs7_45 flm_45 fs8_45 fs9_45 fs10_45 ffm_45 fs11_45 fnm_45 fs12_45 fs13_45 fs14_45 frm_45 fs15_45 fs16_45 fs17_45 fs18_45)
            obtain ⟨k_45, hk_45⟩ := va_plg hg0.1 e_45
            obtain rfl : s1_1 = s1_45 := hU _ _ fs1_1.1 fs1_45.1 (fs1_1.2.trans fs1_45.2.symm)
            obtain rfl : s2_1 = s2_45 := hU _ _ fs2_1.1 fs2_45.1 (fs2_1.2.trans fs2_45.2.symm)
            obtain rfl : s3_1 = s3_45 := hU _ _ fs3_1.1 fs3_45.1 (fs3_1.2.trans fs3_45.2.symm)
            obtain rfl : s4_1 = s4_45 := hU _ _ fs4_1.1 fs4_45.1 (fs4_1.2.trans fs4_45.2.symm)
            obtain rfl : s5_1 = s5_45 := hU _ _ fs5_1.1 fs5_45.1 (fs5_1.2.trans fs5_45.2.symm)
            obtain rfl : s6_1 = s6_45 := hU _ _ fs6_1.1 fs6_45.1 (fs6_1.2.trans fs6_45.2.symm)
            obtain rfl : s7_1 = s7_45 := hU _ _ fs7_1.1 fs7_45.1 (fs7_1.2.trans fs7_45.2.symm)
            obtain rfl : s8_1 = s8_45 := hU _ _ fs8_1.1 fs8_45.1 (fs8_1.2.trans fs8_45.2.symm)
            obtain rfl : s9_1 = s9_45 := hU _ _ fs9_1.1 fs9_45.1 (fs9_1.2.trans fs9_45.2.symm)
            obtain rfl : s10_1 = s10_45 := hU _ _ fs10_1.1 fs10_45.1 (fs10_1.2.trans fs10_45.2.symm)
            obtain rfl : s11_1 = s11_45 := hU _ _ fs11_1.1 fs11_45.1 (fs11_1.2.trans fs11_45.2.symm)
            obtain rfl : s12_1 = s12_45 := hU _ _ fs12_1.1 fs12_45.1 (fs12_1.2.trans fs12_45.2.symm)
            obtain rfl : s13_1 = s13_45 := hU _ _ fs13_1.1 fs13_45.1 (fs13_1.2.trans fs13_45.2.symm)
            obtain rfl : s14_1 = s14_45 := hU _ _ fs14_1.1 fs14_45.1 (fs14_1.2.trans fs14_45.2.symm)
            obtain rfl : s15_1 = s15_45 := hU _ _ fs15_1.1 fs15_45.1 (fs15_1.2.trans fs15_45.2.symm)
            obtain rfl : s16_1 = s16_45 := hU _ _ fs16_1.1 fs16_45.1 (fs16_1.2.trans fs16_45.2.symm)
            obtain rfl : s17_1 = s17_45 := hU _ _ fs17_1.1 fs17_45.1 (fs17_1.2.trans fs17_45.2.symm)
            obtain rfl : s18_1 = s18_45 := hU _ _ fs18_1.1 fs18_45.1 (fs18_1.2.trans fs18_45.2.symm)
            have eg_46 := hr18 s8_1 fs8_1
            have fg_46 := (hPI.a18 fs8_1).of eg_46
            have eg_47 := hr19 s9_1 fs9_1
            have fg_47 := (hPI.a19 fs9_1).of eg_47
            have eg_48 := hr20 s10_1 fs10_1
            have fg_48 := (hPI.a20 fs10_1).of eg_48
            have eg_49 := hr22 s12_1 fs12_1
            have fg_49 := (hPI.a22 fs12_1).of eg_49
            have eg_50 := hr23 s13_1 fs13_1
            have fg_50 := (hPI.a23 fs13_1).of eg_50
            have eg_51 := hr24 s14_1 fs14_1
            have fg_51 := (hPI.a24 fs14_1).of eg_51
            rw [(show cI (fl g0) 14 = nm_45 from by rw [e_45]; rfl)] at hLS
            have hk7 : pa_45 = cI (f g0) 7 := by rw [← hv7, e_45]; rfl
            have hlm : lm_45 = nm_45 := by rw [(show cI (fl g0) 8 = lm_45 from by rw [e_45]; rfl), (show cI (fl g0) 14 = nm_45 from by rw [e_45]; rfl)] at hv8; exact hv8
            refine lv_iload_n hx hb dX3_leaves_48 rfl (lv_at hl 0 rfl) ?_
            refine lv_aload_n hx hb dX3_leaves_49 rfl (lv_at hl 1 rfl) ?_
            obtain ⟨k_52, hk_52⟩ := va_plg hg0.1 e_45
            refine va_get (D := (dC, dI)) (ci := 3) (v := .int nm_45) (C := RX3) (T := TX3) (N := 23) hx hb hts iX3_ hown hK hP k_52 hk_52 rfl 14 (by decide) (hts (.fieldLink RX3 160 "FieldLeavesModel" "newMany" "I") (by decide +kernel)) (fun _ h9 => h9) rfl dX3_leaves_50 ?_
            refine lv_icmp_ge (tgt := 98) hx hb dX3_leaves_53 (by decide) (fun c_53 => ?_) (fun c_53 => ?_)
            · have c_53 := Int32.le_iff_toInt_le.mp c_53
              refine lv_aload_n hx hb dX3_leaves_98 rfl (lv_at hl 1 rfl) ?_
              obtain ⟨k_54, hk_54⟩ := va_plg hg0.1 e_45
              refine va_get (D := (dC, dI)) (ci := 3) (v := .int lm_45) (C := RX3) (T := TX3) (N := 23) hx hb hts iX3_ hown hK hP k_54 hk_54 rfl 8 (by decide) (hts (.fieldLink RX3 184 "FieldLeavesModel" "leafMany" "I") (by decide +kernel)) (fun _ h9 => h9) rfl dX3_leaves_99 ?_
              subst eQ
              exact W.iret (v := lm_45) hx hb hr (fun t ht hW => ⟨⟨lm_45, (), rfl, (show rs_leaves fS fC fF fR fW p0 lm_45 from by unfold rs_leaves; rw [if_pos (by omega), ← ez_5, if_neg (by omega), hlz]; show lm_45.toInt = _; rw [hlm]; exact hLS.1), fl, hPI, ⟨(FR.tr hfrE48 hfr (fun _ h => h)), _, _, _, lm_45, (by unfold rv_leaves; rw [if_pos (by rw [← ez_5]; omega), ← ez_5, hlz]; exact hLS.agree (by rw [hlm]) (fun j hj => hcp j (by omega))), ⟨SV.mk hU fs1_1 fs2_1 fs3_1 eq_40 eq_41 eq_42, ⟨un_row hU fs4_1 eq_43, un_row hU fs5_1 eq_44⟩, ⟨un_row hU fs8_1 eg_46, un_row hU fs9_1 eg_47, un_row hU fs10_1 eg_48⟩, (show cI (fl g0) 8 = lm_45 from by rw [e_45]; rfl), (by rw [(show cI (fl g0) 7 = pa_45 from by rw [e_45]; rfl)]; exact hk7.trans (by rw [e_1]; rfl))⟩⟩, by rw [ht]; exact hP, hD⟩, hS.F ht⟩) hS.2.2 dX3_leaves_102
            · have c_53 := mt Int32.le_iff_toInt_le.mpr c_53
              refine lv_aload_n hx hb dX3_leaves_56 rfl (lv_at hl 1 rfl) ?_
              obtain ⟨k_55, hk_55⟩ := va_plg hg0.1 e_45
              refine va_get (D := (dC, dI)) (ci := 3) (v := .ref s8_1) (C := RX3) (T := TX3) (N := 23) hx hb hts iX3_ hown hK hP k_55 hk_55 rfl 9 (by decide) (hts (.fieldLink RX3 35 "FieldLeavesModel" "leafObject" "[I") (by decide +kernel)) (fun _ h9 => h9) rfl dX3_leaves_57 ?_
              refine lv_iload_n hx hb dX3_leaves_60 rfl (lv_at hl 0 rfl) ?_
              refine lv_aload_n hx hb dX3_leaves_61 rfl (lv_at hl 1 rfl) ?_
              obtain ⟨k_56, hk_56⟩ := va_plg hg0.1 e_45
              refine va_get (D := (dC, dI)) (ci := 3) (v := .ref s12_1) (C := RX3) (T := TX3) (N := 23) hx hb hts iX3_ hown hK hP k_56 hk_56 rfl 15 (by decide) (hts (.fieldLink RX3 47 "FieldLeavesModel" "newObject" "[I") (by decide +kernel)) (fun _ h9 => h9) rfl dX3_leaves_62 ?_
              refine lv_iload_n hx hb dX3_leaves_65 rfl (lv_at hl 0 rfl) ?_
              obtain ⟨k_57, hk_57⟩ := va_plg fs12_1.1 eg_49
              have h_57 : vp_in i2 300 := (vp_in_iff.mpr (by constructor <;> omega))
              refine va_iald hx hb hK hP k_57 0 hk_57 rfl h_57 dX3_leaves_66 ?_
              refine lv_topi (fun z_57 ez_57 => ?_)
              have fz_57 := fg_49 _ (vp_lt h_57)
              rw [← ez_57] at fz_57
              have hdez_57 := congrArg Int32.toInt ez_57
              obtain ⟨k_58, hk_58⟩ := va_plg fs8_1.1 eg_46
              have h_58 : vp_in i2 300 := (vp_in_iff.mpr (by constructor <;> omega))
              have fw_58 := updS (P := fun v => 0 ≤ v.toInt ∧ v.toInt < 24) (k := Int32.toNatClampNeg i2) (v := z_57) fg_46 (by omega)
              have hD9 := hD
              refine va_iast hx hb hK hP hD hS k_58 0 hk_58 rfl h_58 dX3_leaves_67 (fun H locs hP hD hS => ?_)
              have hP : va_P (dC, dI) vwCl (va_pl L (va_up fl s8_1 (.inl (kI, 300, .inl (upd lo2 (Int32.toNatClampNeg i2) z_57))))) H := by rw [← va_pls hD9 fs8_1.1 hk_58 _]; exact hP
              have hD : va_D A (va_pl L (va_up fl s8_1 (.inl (kI, 300, .inl (upd lo2 (Int32.toNatClampNeg i2) z_57))))) := by rw [← va_pls hD9 fs8_1.1 hk_58 _]; exact hD
              have hPI := hPI.put (e := .inl (kI, 300, .inl (upd lo2 (Int32.toNatClampNeg i2) z_57))) fs8_1 ⟨_, rfl, fw_58⟩
              have es_f_59 : va_up fl s8_1 (.inl (kI, 300, .inl (upd lo2 (Int32.toNatClampNeg i2) z_57))) s8_1 = .inl (kI, 300, .inl (upd lo2 (Int32.toNatClampNeg i2) z_57)) := va_up_self _ _ _
              have eq_60 := (va_up_ne fl (.inl (kI, 300, .inl (upd lo2 (Int32.toNatClampNeg i2) z_57))) (isr_ne hg0 fs8_1 (by decide))).trans e_45
              have eq_61 := (va_up_ne fl (.inl (kI, 300, .inl (upd lo2 (Int32.toNatClampNeg i2) z_57))) (isr_ne fs1_1 fs8_1 (by decide))).trans eq_40
              have eq_62 := (va_up_ne fl (.inl (kI, 300, .inl (upd lo2 (Int32.toNatClampNeg i2) z_57))) (isr_ne fs2_1 fs8_1 (by decide))).trans eq_41
              have eq_63 := (va_up_ne fl (.inl (kI, 300, .inl (upd lo2 (Int32.toNatClampNeg i2) z_57))) (isr_ne fs3_1 fs8_1 (by decide))).trans eq_42
              have eq_64 := (va_up_ne fl (.inl (kI, 300, .inl (upd lo2 (Int32.toNatClampNeg i2) z_57))) (isr_ne fs4_1 fs8_1 (by decide))).trans eq_43
              have eq_65 := (va_up_ne fl (.inl (kI, 300, .inl (upd lo2 (Int32.toNatClampNeg i2) z_57))) (isr_ne fs5_1 fs8_1 (by decide))).trans eq_44
              have eq_66 := (va_up_ne fl (.inl (kI, 300, .inl (upd lo2 (Int32.toNatClampNeg i2) z_57))) (isr_ne fs9_1 fs8_1 (by decide))).trans eg_47
              have eq_67 := (va_up_ne fl (.inl (kI, 300, .inl (upd lo2 (Int32.toNatClampNeg i2) z_57))) (isr_ne fs10_1 fs8_1 (by decide))).trans eg_48
              have eq_68 := (va_up_ne fl (.inl (kI, 300, .inl (upd lo2 (Int32.toNatClampNeg i2) z_57))) (isr_ne fs12_1 fs8_1 (by decide))).trans eg_49
              have eq_69 := (va_up_ne fl (.inl (kI, 300, .inl (upd lo2 (Int32.toNatClampNeg i2) z_57))) (isr_ne fs13_1 fs8_1 (by decide))).trans eg_50
              have eq_70 := (va_up_ne fl (.inl (kI, 300, .inl (upd lo2 (Int32.toNatClampNeg i2) z_57))) (isr_ne fs14_1 fs8_1 (by decide))).trans eg_51
              have hfr := fr_up (S := (sK [10, 18, 19, 20, 21, 22, 23, 24])) (e := .inl (kI, 300, .inl (upd lo2 (Int32.toNatClampNeg i2) z_57))) hfr fs8_1 (by decide)
              generalize hg_f_59 : va_up fl s8_1 (.inl (kI, 300, .inl (upd lo2 (Int32.toNatClampNeg i2) z_57))) = f_59 at hP hD hPI es_f_59 eq_60 eq_61 eq_62 eq_63 eq_64 eq_65 eq_66 eq_67 eq_68 eq_69 eq_70 hfr
              refine lv_aload_n hx hb dX3_leaves_68 rfl (lv_at hl 1 rfl) ?_
              obtain ⟨k_71, hk_71⟩ := va_plg hg0.1 eq_60
              refine va_get (D := (dC, dI)) (ci := 3) (v := .ref s9_1) (C := RX3) (T := TX3) (N := 23) hx hb hts iX3_ hown hK hP k_71 hk_71 rfl 10 (by decide) (hts (.fieldLink RX3 38 "FieldLeavesModel" "leafField" "[I") (by decide +kernel)) (fun _ h9 => h9) rfl dX3_leaves_69 ?_
              refine lv_iload_n hx hb dX3_leaves_72 rfl (lv_at hl 0 rfl) ?_
              refine lv_aload_n hx hb dX3_leaves_73 rfl (lv_at hl 1 rfl) ?_
              obtain ⟨k_72, hk_72⟩ := va_plg hg0.1 eq_60
              refine va_get (D := (dC, dI)) (ci := 3) (v := .ref s13_1) (C := RX3) (T := TX3) (N := 23) hx hb hts iX3_ hown hK hP k_72 hk_72 rfl 16 (by decide) (hts (.fieldLink RX3 50 "FieldLeavesModel" "newField" "[I") (by decide +kernel)) (fun _ h9 => h9) rfl dX3_leaves_74 ?_
              refine lv_iload_n hx hb dX3_leaves_77 rfl (lv_at hl 0 rfl) ?_
              obtain ⟨k_73, hk_73⟩ := va_plg fs13_1.1 eq_69
              have h_73 : vp_in i2 300 := (vp_in_iff.mpr (by constructor <;> omega))
              refine va_iald hx hb hK hP k_73 0 hk_73 rfl h_73 dX3_leaves_78 ?_
              refine lv_topi (fun z_73 ez_73 => ?_)
              have fz_73 := fg_50 _ (vp_lt h_73)
              rw [← ez_73] at fz_73
              have hdez_73 := congrArg Int32.toInt ez_73
              obtain ⟨k_74, hk_74⟩ := va_plg fs9_1.1 eq_66
              have h_74 : vp_in i2 300 := (vp_in_iff.mpr (by constructor <;> omega))
              have fw_74 := updS (P := fun v => (-1 ≤ v.toInt ∧ v.toInt < 17) ∨ (100 ≤ v.toInt ∧ v.toInt < 120)) (k := Int32.toNatClampNeg i2) (v := z_73) fg_47 (by omega)
              have hD9 := hD
              refine va_iast hx hb hK hP hD hS k_74 0 hk_74 rfl h_74 dX3_leaves_79 (fun H locs hP hD hS => ?_)
              have hP : va_P (dC, dI) vwCl (va_pl L (va_up f_59 s9_1 (.inl (kI, 300, .inl (upd ld2 (Int32.toNatClampNeg i2) z_73))))) H := by rw [← va_pls hD9 fs9_1.1 hk_74 _]; exact hP
              have hD : va_D A (va_pl L (va_up f_59 s9_1 (.inl (kI, 300, .inl (upd ld2 (Int32.toNatClampNeg i2) z_73))))) := by rw [← va_pls hD9 fs9_1.1 hk_74 _]; exact hD
              have hPI := hPI.put (e := .inl (kI, 300, .inl (upd ld2 (Int32.toNatClampNeg i2) z_73))) fs9_1 ⟨_, rfl, fw_74⟩
              have es_f_75 : va_up f_59 s9_1 (.inl (kI, 300, .inl (upd ld2 (Int32.toNatClampNeg i2) z_73))) s9_1 = .inl (kI, 300, .inl (upd ld2 (Int32.toNatClampNeg i2) z_73)) := va_up_self _ _ _
              have eq_76 := (va_up_ne f_59 (.inl (kI, 300, .inl (upd ld2 (Int32.toNatClampNeg i2) z_73))) (isr_ne hg0 fs9_1 (by decide))).trans eq_60
              have eq_77 := (va_up_ne f_59 (.inl (kI, 300, .inl (upd ld2 (Int32.toNatClampNeg i2) z_73))) (isr_ne fs1_1 fs9_1 (by decide))).trans eq_61
              have eq_78 := (va_up_ne f_59 (.inl (kI, 300, .inl (upd ld2 (Int32.toNatClampNeg i2) z_73))) (isr_ne fs2_1 fs9_1 (by decide))).trans eq_62
              have eq_79 := (va_up_ne f_59 (.inl (kI, 300, .inl (upd ld2 (Int32.toNatClampNeg i2) z_73))) (isr_ne fs3_1 fs9_1 (by decide))).trans eq_63
              have eq_80 := (va_up_ne f_59 (.inl (kI, 300, .inl (upd ld2 (Int32.toNatClampNeg i2) z_73))) (isr_ne fs4_1 fs9_1 (by decide))).trans eq_64
              have eq_81 := (va_up_ne f_59 (.inl (kI, 300, .inl (upd ld2 (Int32.toNatClampNeg i2) z_73))) (isr_ne fs5_1 fs9_1 (by decide))).trans eq_65
              have eq_82 := (va_up_ne f_59 (.inl (kI, 300, .inl (upd ld2 (Int32.toNatClampNeg i2) z_73))) (isr_ne fs10_1 fs9_1 (by decide))).trans eq_67
              have eq_83 := (va_up_ne f_59 (.inl (kI, 300, .inl (upd ld2 (Int32.toNatClampNeg i2) z_73))) (isr_ne fs12_1 fs9_1 (by decide))).trans eq_68
              have eq_84 := (va_up_ne f_59 (.inl (kI, 300, .inl (upd ld2 (Int32.toNatClampNeg i2) z_73))) (isr_ne fs13_1 fs9_1 (by decide))).trans eq_69
              have eq_85 := (va_up_ne f_59 (.inl (kI, 300, .inl (upd ld2 (Int32.toNatClampNeg i2) z_73))) (isr_ne fs14_1 fs9_1 (by decide))).trans eq_70
              have eq_86 := (va_up_ne f_59 (.inl (kI, 300, .inl (upd ld2 (Int32.toNatClampNeg i2) z_73))) (isr_ne fs8_1 fs9_1 (by decide))).trans es_f_59
              have hfr := fr_up (S := (sK [10, 18, 19, 20, 21, 22, 23, 24])) (e := .inl (kI, 300, .inl (upd ld2 (Int32.toNatClampNeg i2) z_73))) hfr fs9_1 (by decide)
              generalize hg_f_75 : va_up f_59 s9_1 (.inl (kI, 300, .inl (upd ld2 (Int32.toNatClampNeg i2) z_73))) = f_75 at hP hD hPI es_f_75 eq_76 eq_77 eq_78 eq_79 eq_80 eq_81 eq_82 eq_83 eq_84 eq_85 eq_86 hfr
              refine lv_aload_n hx hb dX3_leaves_80 rfl (lv_at hl 1 rfl) ?_
              obtain ⟨k_87, hk_87⟩ := va_plg hg0.1 eq_76
              refine va_get (D := (dC, dI)) (ci := 3) (v := .ref s10_1) (C := RX3) (T := TX3) (N := 23) hx hb hts iX3_ hown hK hP k_87 hk_87 rfl 11 (by decide) (hts (.fieldLink RX3 41 "FieldLeavesModel" "leafValue" "[J") (by decide +kernel)) (fun _ h9 => h9) rfl dX3_leaves_81 ?_
              refine lv_iload_n hx hb dX3_leaves_84 rfl (lv_at hl 0 rfl) ?_
              refine lv_aload_n hx hb dX3_leaves_85 rfl (lv_at hl 1 rfl) ?_
              obtain ⟨k_88, hk_88⟩ := va_plg hg0.1 eq_76
              refine va_get (D := (dC, dI)) (ci := 3) (v := .ref s14_1) (C := RX3) (T := TX3) (N := 23) hx hb hts iX3_ hown hK hP k_88 hk_88 rfl 17 (by decide) (hts (.fieldLink RX3 53 "FieldLeavesModel" "newValue" "[J") (by decide +kernel)) (fun _ h9 => h9) rfl dX3_leaves_86 ?_
              refine lv_iload_n hx hb dX3_leaves_89 rfl (lv_at hl 0 rfl) ?_
              obtain ⟨k_89, hk_89⟩ := va_plg fs14_1.1 eq_85
              have h_89 : vp_in i2 300 := (vp_in_iff.mpr (by constructor <;> omega))
              refine va_lald hx hb hK hP k_89 1 hk_89 rfl h_89 dX3_leaves_90 ?_
              refine lv_topl (fun z_89 ez_89 => ?_)
              obtain ⟨k_90, hk_90⟩ := va_plg fs10_1.1 eq_82
              have h_90 : vp_in i2 300 := (vp_in_iff.mpr (by constructor <;> omega))
              have fw_90 := trivial
              have hD9 := hD
              refine va_last hx hb hK hP hD hS k_90 1 hk_90 rfl h_90 dX3_leaves_91 (fun H locs hP hD hS => ?_)
              have hP : va_P (dC, dI) vwCl (va_pl L (va_up f_75 s10_1 (.inl (kJ, 300, .inr (.inl (vp_updL lv2 (Int32.toNatClampNeg i2) z_89)))))) H := by rw [← va_pls hD9 fs10_1.1 hk_90 _]; exact hP
              have hD : va_D A (va_pl L (va_up f_75 s10_1 (.inl (kJ, 300, .inr (.inl (vp_updL lv2 (Int32.toNatClampNeg i2) z_89)))))) := by rw [← va_pls hD9 fs10_1.1 hk_90 _]; exact hD
              have hPI := hPI.put (e := .inl (kJ, 300, .inr (.inl (vp_updL lv2 (Int32.toNatClampNeg i2) z_89)))) fs10_1 ⟨_, rfl, fw_90⟩
              have es_f_91 : va_up f_75 s10_1 (.inl (kJ, 300, .inr (.inl (vp_updL lv2 (Int32.toNatClampNeg i2) z_89)))) s10_1 = .inl (kJ, 300, .inr (.inl (vp_updL lv2 (Int32.toNatClampNeg i2) z_89))) := va_up_self _ _ _
              have eq_92 := (va_up_ne f_75 (.inl (kJ, 300, .inr (.inl (vp_updL lv2 (Int32.toNatClampNeg i2) z_89)))) (isr_ne hg0 fs10_1 (by decide))).trans eq_76
              have eq_93 := (va_up_ne f_75 (.inl (kJ, 300, .inr (.inl (vp_updL lv2 (Int32.toNatClampNeg i2) z_89)))) (isr_ne fs1_1 fs10_1 (by decide))).trans eq_77
              have eq_94 := (va_up_ne f_75 (.inl (kJ, 300, .inr (.inl (vp_updL lv2 (Int32.toNatClampNeg i2) z_89)))) (isr_ne fs2_1 fs10_1 (by decide))).trans eq_78
              have eq_95 := (va_up_ne f_75 (.inl (kJ, 300, .inr (.inl (vp_updL lv2 (Int32.toNatClampNeg i2) z_89)))) (isr_ne fs3_1 fs10_1 (by decide))).trans eq_79
              have eq_96 := (va_up_ne f_75 (.inl (kJ, 300, .inr (.inl (vp_updL lv2 (Int32.toNatClampNeg i2) z_89)))) (isr_ne fs4_1 fs10_1 (by decide))).trans eq_80
              have eq_97 := (va_up_ne f_75 (.inl (kJ, 300, .inr (.inl (vp_updL lv2 (Int32.toNatClampNeg i2) z_89)))) (isr_ne fs5_1 fs10_1 (by decide))).trans eq_81
              have eq_98 := (va_up_ne f_75 (.inl (kJ, 300, .inr (.inl (vp_updL lv2 (Int32.toNatClampNeg i2) z_89)))) (isr_ne fs12_1 fs10_1 (by decide))).trans eq_83
              have eq_99 := (va_up_ne f_75 (.inl (kJ, 300, .inr (.inl (vp_updL lv2 (Int32.toNatClampNeg i2) z_89)))) (isr_ne fs13_1 fs10_1 (by decide))).trans eq_84
              have eq_100 := (va_up_ne f_75 (.inl (kJ, 300, .inr (.inl (vp_updL lv2 (Int32.toNatClampNeg i2) z_89)))) (isr_ne fs14_1 fs10_1 (by decide))).trans eq_85
              have eq_101 := (va_up_ne f_75 (.inl (kJ, 300, .inr (.inl (vp_updL lv2 (Int32.toNatClampNeg i2) z_89)))) (isr_ne fs8_1 fs10_1 (by decide))).trans eq_86
              have eq_102 := (va_up_ne f_75 (.inl (kJ, 300, .inr (.inl (vp_updL lv2 (Int32.toNatClampNeg i2) z_89)))) (isr_ne fs9_1 fs10_1 (by decide))).trans es_f_75
              have hfr := fr_up (S := (sK [10, 18, 19, 20, 21, 22, 23, 24])) (e := .inl (kJ, 300, .inr (.inl (vp_updL lv2 (Int32.toNatClampNeg i2) z_89)))) hfr fs10_1 (by decide)
              generalize hg_f_91 : va_up f_75 s10_1 (.inl (kJ, 300, .inr (.inl (vp_updL lv2 (Int32.toNatClampNeg i2) z_89)))) = f_91 at hP hD hPI es_f_91 eq_92 eq_93 eq_94 eq_95 eq_96 eq_97 eq_98 eq_99 eq_100 eq_101 eq_102 hfr
              obtain ⟨i_103, ei_103⟩ : ∃ y : Int32, y = i2 + 1 := ⟨_, rfl⟩
              refine lv_iinc (v := i_103) (lv' := [(2, .int i_103), (0, .ref g0), (1, .int p0)]) hx hb dX3_leaves_92 hl (k := 0) rfl (by rw [ei_103]; rfl) (by decide) rfl (fun ls hl => ?_)
              have ki_103 := inc_toInt ei_103 (by omega)
              refine lv_goto (tgt := 48) hx hb dX3_leaves_95 (by decide) ?_
              exact ih_48 i_103 f_91 _ _ _  (by omega) (by omega) ⟨hfr, ⟨_, _, _, _, _, _, ⟨⟨un_row hU fs8_1 eq_101, un_row hU fs9_1 eq_102, un_row hU fs10_1 es_f_91⟩, ⟨un_row hU fs12_1 eq_98, un_row hU fs13_1 eq_99, un_row hU fs14_1 eq_100⟩⟩, (by rw [(show cI (f_91 g0) 14 = nm_45 from by rw [eq_92]; rfl)]; exact hLS), (by rw [eq_92]; exact hlm), (by rw [eq_92]; exact hk7), cp3_step hcp (by omega) ez_57 ez_73 ez_89 ki_103⟩⟩ hPI hP hD hS (lv_sub hl [0, 1, 2] rfl)
        exact loop_48 301 0 f_28 _ _ _  (by omega) (by omega) ⟨FR.rf, ⟨_, _, _, _, _, _, ⟨⟨un_row hU fs8_1 eq_34, un_row hU fs9_1 eq_35, un_row hU fs10_1 eq_36⟩, ⟨un_row hU fs12_1 eq_37, un_row hU fs13_1 eq_38, un_row hU fs14_1 eq_39⟩⟩, (by rw [(show cI (f_28 g0) 14 = nm_21 from by rw [es_f_28]; rfl)]; exact hLS), (by rw [es_f_28]; rfl), (by rw [es_f_28]; exact hk7), fun j h9 => absurd h9 (by omega)⟩⟩ hPI hP hD hS hl
      · have hlz := hp_20
        refine lv_if_ne (tgt := 38) hx hb dX3_leaves_32 (by decide) (fun c9 => absurd c9 (by decide)) (fun _ => ?_)
        refine lv_bipush (v := (-3)) hx hb dX3_leaves_35 (by decide) ?_
        subst eQ
        (refine hPI.a10E hg0 ?_; intro s1_104 s2_104 s3_104 s4_104 s5_104 s6_104 s7_104 pa_104 lm_104 s8_104 s9_104 s10_104 fm_104 s11_104 nm_104 s12_104 s13_104 s14_104 rm_104 s15_104 s16_104 s17_104 s18_104 e_104 fs1_104 fs2_104 fs3_104 fs4_104 fs5_104 fs6_104 fs7_104 flm_104 fs8_104 fs9_104 fs10_104 ffm_104 fs11_104 fnm_104 fs12_104 fs13_104 fs14_104 frm_104 fs15_104 fs16_104 fs17_104 fs18_104)
        obtain ⟨k_104, hk_104⟩ := va_plg hg0.1 e_104
        obtain rfl : s1_1 = s1_104 := hU _ _ fs1_1.1 fs1_104.1 (fs1_1.2.trans fs1_104.2.symm)
        obtain rfl : s2_1 = s2_104 := hU _ _ fs2_1.1 fs2_104.1 (fs2_1.2.trans fs2_104.2.symm)
        obtain rfl : s3_1 = s3_104 := hU _ _ fs3_1.1 fs3_104.1 (fs3_1.2.trans fs3_104.2.symm)
        obtain rfl : s4_1 = s4_104 := hU _ _ fs4_1.1 fs4_104.1 (fs4_1.2.trans fs4_104.2.symm)
        obtain rfl : s5_1 = s5_104 := hU _ _ fs5_1.1 fs5_104.1 (fs5_1.2.trans fs5_104.2.symm)
        obtain rfl : s6_1 = s6_104 := hU _ _ fs6_1.1 fs6_104.1 (fs6_1.2.trans fs6_104.2.symm)
        obtain rfl : s7_1 = s7_104 := hU _ _ fs7_1.1 fs7_104.1 (fs7_1.2.trans fs7_104.2.symm)
        obtain rfl : s8_1 = s8_104 := hU _ _ fs8_1.1 fs8_104.1 (fs8_1.2.trans fs8_104.2.symm)
        obtain rfl : s9_1 = s9_104 := hU _ _ fs9_1.1 fs9_104.1 (fs9_1.2.trans fs9_104.2.symm)
        obtain rfl : s10_1 = s10_104 := hU _ _ fs10_1.1 fs10_104.1 (fs10_1.2.trans fs10_104.2.symm)
        obtain rfl : s11_1 = s11_104 := hU _ _ fs11_1.1 fs11_104.1 (fs11_1.2.trans fs11_104.2.symm)
        obtain rfl : s12_1 = s12_104 := hU _ _ fs12_1.1 fs12_104.1 (fs12_1.2.trans fs12_104.2.symm)
        obtain rfl : s13_1 = s13_104 := hU _ _ fs13_1.1 fs13_104.1 (fs13_1.2.trans fs13_104.2.symm)
        obtain rfl : s14_1 = s14_104 := hU _ _ fs14_1.1 fs14_104.1 (fs14_1.2.trans fs14_104.2.symm)
        obtain rfl : s15_1 = s15_104 := hU _ _ fs15_1.1 fs15_104.1 (fs15_1.2.trans fs15_104.2.symm)
        obtain rfl : s16_1 = s16_104 := hU _ _ fs16_1.1 fs16_104.1 (fs16_1.2.trans fs16_104.2.symm)
        obtain rfl : s17_1 = s17_104 := hU _ _ fs17_1.1 fs17_104.1 (fs17_1.2.trans fs17_104.2.symm)
        obtain rfl : s18_1 = s18_104 := hU _ _ fs18_1.1 fs18_104.1 (fs18_1.2.trans fs18_104.2.symm)
        exact W.iret (v := (-3)) hx hb hr (fun t ht hW => ⟨⟨(-3), (), rfl, (show rs_leaves fS fC fF fR fW p0 (-3) from by unfold rs_leaves; rw [if_pos (by omega), ← ez_5, if_neg (by omega), hlz]), f_11, hPI, ⟨hfr, lo, ld, lv, lm_1, (by unfold rv_leaves; rw [if_pos (by rw [← ez_5]; omega), ← ez_5, hlz]; exact ⟨rfl, rfl, rfl, rfl⟩), ⟨SV.mk hU fs1_1 fs2_1 fs3_1 eq_12 eq_13 eq_14, ⟨un_row hU fs4_1 eq_15, un_row hU fs5_1 eq_16⟩, ⟨un_row hU fs8_1 eq_17, un_row hU fs9_1 eq_18, un_row hU fs10_1 eq_19⟩, (by rw [hKQ.2, e_1]; rfl), (by rw [hKQ.1, e_1]; rfl)⟩⟩, by rw [ht]; exact hP, hD⟩, hS.F ht⟩) hS.2.2 dX3_leaves_37
    · have c_6 := congrArg Int32.toInt c_6
      refine lv_bipush (v := (-11)) hx hb dX3_leaves_19 (by decide) ?_
      subst eQ
      exact W.iret (v := (-11)) hx hb hr (fun t ht hW => ⟨⟨(-11), (), rfl, (show rs_leaves fS fC fF fR fW p0 (-11) from by unfold rs_leaves; rw [if_pos (by omega), ← ez_5, if_pos (by omega)]), f, hPI, ⟨hfr, lo, ld, lv, lm_1, (by unfold rv_leaves; rw [if_neg (by rw [← ez_5]; omega)]; exact ⟨rfl, rfl, rfl, rfl⟩), hRV⟩, by rw [ht]; exact hP, hD⟩, hS.F ht⟩) hS.2.2 dX3_leaves_21
  · refine lv_if_ne (tgt := 9) hx hb dX3_leaves_4 (by decide) (fun c9 => absurd c9 (by decide)) (fun _ => ?_)
    refine lv_iconst (v := (-1)) hx hb dX3_leaves_7 (by decide) ?_
    subst eQ
    exact W.iret (v := (-1)) hx hb hr (fun t ht hW => ⟨⟨(-1), (), rfl, (show rs_leaves fS fC fF fR fW p0 (-1) from by unfold rs_leaves; rw [if_neg (by omega)]), f, hPI, ⟨hfr, lo, ld, lv, lm_1, (by unfold rv_leaves; rw [if_neg (by omega)]; exact ⟨rfl, rfl, rfl, rfl⟩), hRV⟩, by rw [ht]; exact hP, hD⟩, hS.F ht⟩) hS.2.2 dX3_leaves_8

