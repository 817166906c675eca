-- WHAT back ANSWERS AND CHANGES
def bkok (ll : List (Int32 × Int32 × Int64)) (s : Int32) : Prop := (0 ≤ s.toInt ∧ s.toInt < 12) ∧ ¬ ll = [] ∧ (∀ x ∈ mkl ll, tak x) ∧ fcl (mkl ll).length (csM (mkl ll)) ll = 0
def ks_bk (ll : List (Int32 × Int32 × Int64)) (s r : Int32) : Prop := (¬ (0 ≤ s.toInt ∧ s.toInt < 12) → r = -1) ∧ ((0 ≤ s.toInt ∧ s.toInt < 12) → ll = [] → r = -3) ∧ ((0 ≤ s.toInt ∧ s.toInt < 12) → ¬ ll = [] → (∃ x, x ∈ mkl ll ∧ ¬ tak x) → r = -18) ∧ ((0 ≤ s.toInt ∧ s.toInt < 12) → ¬ ll = [] → (∀ x ∈ mkl ll, tak x) → ¬ fcl (mkl ll).length (csM (mkl ll)) ll = 0 → r = fcl (mkl ll).length (csM (mkl ll)) ll) ∧ (bkok ll s → r.toInt = ((mkl ll).length : Int))
def ks_bkh (K : Nat → Nat) (L : List Nat) (f : Nat → va_E) (h : Nat) (ll : List (Int32 × Int32 × Int64)) (s : Int32) (K2 : Nat → Nat) (L2 : List Nat) (f2 : Nat → va_E) : Prop := ∃ ow2 : Nat → Nat, OWN K2 L2 f2 ow2 ∧ (¬ bkok ll s → (∀ a, a ∈ L → ¬ a = h → ¬ K a = 6 → f2 a = f a) ∧ PHM f f2 h) ∧ (bkok ll s → ∃ (fm : Nat → va_E) (qs : Nat → Nat), MDf K L f h K2 L2 fm ow2 (mkl ll).length qs (csM (mkl ll)) (ll.foldl (fun s x => stV x s) (vsM (mkl ll))) (ll.foldl (fun s x => stN x s) (fun _ _ => none)) (ll.foldl (fun s x => stR x s) (fun _ => none)) ∧ f2 = s_R fm (cP (f h) 0) (Int32.toNatClampNeg s) (some (qs 0)))
theorem bk_len {z : Int32} {n d : Nat → Int32} {v : Nat → Int64} {ll : List (Int32 × Int32 × Int64)} (h : LSv z n d v ll) : (z.toInt = 0 ↔ ll = []) := by
  rw [← List.length_eq_zero_iff]
  have := h.1
  constructor <;> omega
theorem bk_own {kT kI kJ : ClassId} {K Kl : Nat → Nat} {L Ll : List Nat} {f2 fm : Nat → va_E} {ow : Nat → Nat} {h q1 : Nat} {e : va_E} (hh : isr K L 2 h) (hE : EXT K L Kl Ll) (hPI : PI kT kI kJ Kl Ll fm) (hO : OWN Kl Ll fm ow) (hq : isr Kl Ll 5 q1) (e2 : va_up fm q1 e = f2) : OWN Kl Ll f2 ow := own_same hO (fun y hy => by rw [← e2, va_up_ne _ _ (isr_ne hy hq (by decide))]) (fun y hy => by rw [← e2, va_up_ne _ _ (isr_ne hy hq (by decide))])
set_option maxRecDepth 20000 in
theorem in_u_X2_back_X0 : ∀ w ∈ u_ws RX0 TX0 4, w ∈ wsX2_back := by decide +kernel
set_option maxRecDepth 20000 in
theorem in_u_X2_back_X2 : ∀ w ∈ u_ws RX2 TX2 9, w ∈ wsX2_back := by decide +kernel
set_option maxRecDepth 100000 in
set_option maxHeartbeats 4000000 in
theorem u_X2_back (l : Launch) (dC : Nat → ClassId) (dI : Nat → Nat → Nat) (TT : Nat × Nat × Nat) (sz : Nat) (kT kI kJ : ClassId) (K : Nat → Nat) (L : List Nat) (f : Nat → va_E) (hPI : PI kT kI kJ K L f) (h0 : Nat) (hh0 : isr K L 2 h0) (p0 : Int32) (ow : Nat → Nat) (hOW0 : OWN K L f ow) (ll : List (Int32 × Int32 × Int64)) (hLS0 : LSt f (cP (f h0) 2) ll) (h24 : (mkl ll).length ≤ 24) (hn1 : ¬ ll = [] → 0 < (mkl ll).length) : Met l yX2_back wsX2_back ({ frames := 4, cells := 903, slots := 12943, locals := 94 } : Room) (va_Pc [.ref h0, .int p0] (pr dC dI (va_pl L f) (va_pl L f) [(kT, .object RX1), (kI, .int), (kJ, .long)] sz TT)) (va_Qi (fun (r : Int32) (u : Unit) => ks_bk ll p0 r) (fun (_ : Unit) t => ∃ (K2 : Nat → Nat) (L2 : List Nat) (f2 : Nat → va_E), PI kT kI kJ K2 L2 f2 ∧ EXT K L K2 L2 ∧ (ks_bkh K L f h0 ll p0 K2 L2 f2) ∧ va_P (dC, dI) vwCl (va_pl L2 f2) t.heap ∧ va_D (va_A (va_pl L f) sz) (va_pl L2 f2)) (va_A (va_pl L f) sz)) 903 12943 (va_A (va_pl L f) sz) := by
  refine Met.ofW (cc := cX2_back) (maxL := 3) (ret := (some .int)) (by decide) rfl ?_
  intro p e s m args below meth c s₁ B hml hv
  obtain ⟨rfl, hsz, hP, hK, hD0, hst⟩ := hv
  have hx := B.exec
  have hb := B.bytes
  have hr := B.returns
  have hts := atoms_spec (ws := wsX2_back) B.pre
  have hown : s.vm.findClass RX2 = some m.cls := findClass_of_methodNamed B.named
  have hlocks := B.notSynchronized
  have iX0_ := in_u_X2_back_X0
  have iX2_ := in_u_X2_back_X2
  subst hsz
  have hD := hD0.self (sz := s.heap.size)
  generalize hAe : va_A (va_pl L f) s.heap.size = A at hD hst ⊢
  have hA : ∀ q : Nat, s.heap.size ≤ q → A q := fun q h => by rw [← hAe]; exact Or.inr h
  have hS : va_S A s.heap s.heap [] := va_S.rf
  have hl := lv_entry ([.ref h0, .int p0]) (n := 3) (Nat.le_of_ble_eq_true rfl)
  rw [lg_entry_eq]
  generalize (lg_sl ([.ref h0, .int p0]) ++ List.replicate (3 - (lg_sl ([.ref h0, .int p0])).length) Slot.unset).toArray = ls at hl ⊢
  have hl : lv_has ls 3 [(0, .ref h0), (1, .int p0)] := hl
  have km18_ : Int32.toInt (-18) = -18 := by decide
  have km3_ : Int32.toInt (-3) = -3 := by decide
  have km1_ : Int32.toInt (-1) = -1 := by decide
  have k0_ : Int32.toInt 0 = 0 := by decide
  have hPI0 := hPI
  refine lv_iload_n hx hb dX2_back_0 rfl (lv_at hl 1 rfl) ?_
  refine va_calli (va_runS (As := [.int p0]) (rest := []) ⟨hx, hb, hml, hown, hts⟩ (c_X2_isSlot l dC dI TT s.heap.size p0) (va_cwS 1 hts gX2_back_X2_isSlot rfl rfl rfl (by decide +kernel) ⟨Nat.le_of_ble_eq_true rfl, Nat.le_of_ble_eq_true rfl⟩) (pr_S (ws := []) (wA := []) (tys := []) vp_nil (hK.sub [] rfl) vd_nil hst hS (ro_free hS hA)) rfl rfl hl.1 rfl (lv_room (Nat.le_of_ble_eq_true rfl)) dX2_back_1 ⟨Nat.le_of_ble_eq_true rfl, Nat.le_of_ble_eq_true rfl⟩) hS (fun q _ h => (ro_free hS hA) q h) (ro_free hS hA) (fun r_1 u t H1 locs ht hvm hw hB hz1 hk1 hS => ?_)
  have hP := ro_keep hP hk1
  generalize H1 = H at hP hS ⊢
  rcases hw with ⟨rfl, hp_2⟩ | ⟨rfl, hp_2⟩
  · refine lv_if_ne (tgt := 9) hx hb dX2_back_4 (by decide) (fun _ => ?_) (fun c9 => absurd c9 (by decide))
    refine lv_aload_n hx hb dX2_back_9 rfl (lv_at hl 0 rfl) ?_
    obtain ⟨q1_3, pc_3, c1_3, c2_3, c3_3, q5_3, fc_3, q7_3, mc_3, e_3, fq1_3, fc1_3, fc2_3, fc3_3, fq5_3, ffc_3, fq7_3, fmc_3⟩ := hPI.a2 hh0
    obtain ⟨k_3, hk_3⟩ := va_plg hh0.1 e_3
    refine va_get (D := (dC, dI)) (ci := 2) (v := .ref c1_3) (C := RX2) (T := TX2) (N := 9) hx hb hts iX2_ hown hK hP k_3 hk_3 rfl 2 (by decide) (hts (.fieldLink RX2 18 "FieldLeaves" "current" "LFieldLeaves$LeafList;") (by decide +kernel)) (fun _ h9 => h9) rfl dX2_back_10 ?_
    obtain ⟨n_4, d_4, v_4, z_4, e_4, fn_4, fd_4, fv_4, fz_4⟩ := hPI.a0 fc1_3
    obtain ⟨k_4, hk_4⟩ := va_plg fc1_3.1 e_4
    refine va_get (D := (dC, dI)) (ci := 0) (v := .int z_4) (C := RX0) (T := TX0) (N := 4) hx hb hts iX0_ hown hK hP k_4 hk_4 rfl 3 (by decide) (hts (.fieldLink RX2 128 "FieldLeaves$LeafList" "size" "I") (by decide +kernel)) (fun _ h9 => h9) rfl dX2_back_13 ?_
    refine lv_if_ne (tgt := 22) hx hb dX2_back_16 (by decide) (fun c_5 => ?_) (fun c_5 => ?_)
    · have c_5 := mt Int32.toInt_inj.mp c_5
      refine lv_aload_n hx hb dX2_back_22 rfl (lv_at hl 0 rfl) ?_
      have hpos := hn1 (fun h7 => absurd (((bk_len (show LSv z_4 _ _ _ ll from by have h7 := hLS0; unfold LSt at h7; rw [ob_c1 e_3, li_z e_4] at h7; exact h7)).mpr h7)) (by omega))
      have hFc := pl_free hD hS hA
      obtain ⟨k_6, hk_6⟩ := va_plg hh0.1 e_3
      refine va_calli (va_runV (b := h0) (As := []) (rest := []) ⟨hx, hb, hml, hown, hts⟩ (u_X2_makeFromLeaves l dC dI TT H.size kT kI kJ K L f hPI h0 hh0 ow hOW0 ll hLS0 h24) (cwV 0 hts gX2_back_X2_makeFromLeaves rfl rfl rfl (by decide +kernel) ⟨Nat.le_of_ble_eq_true rfl, Nat.le_of_ble_eq_true rfl⟩) ⟨pr_blind, va_recv hK hP (ci := 2) rfl hk_6, (pr_S (ws := va_pl L f) (wA := va_pl L f) (tys := [(kT, .object RX1), (kI, .int), (kJ, .long)]) hP hK (hD.weaken (fun _ _ _ _ => trivial)) hst hS hFc).2⟩ rfl rfl hl.1 rfl (lv_room (Nat.le_of_ble_eq_true rfl)) dX2_back_23 ⟨Nat.le_of_ble_eq_true rfl, Nat.le_of_ble_eq_true rfl⟩) hS (fun q _ h => hFc q h) hFc (fun r_7 u t H1 locs ht hvm hw hB hz1 hk1 hS => ?_)
      obtain ⟨K_9, L_10, f_8, hPI, hE, hrel, hP, hD9⟩ := hB
      rw [ht] at hP
      have hD := hD9.weaken (fun _ q _ h => hFc q.1 h)
      have fe_11 := hh0.ext hE
      have hE0 := hE
      generalize H1 = H at hP hS ⊢
      refine W.widen (k := 602) (n := 6923) (by omega) (by omega) ?_
      obtain ⟨owl, ⟨hFr, hOWl⟩, hMd⟩ := hrel
      rcases hw with ⟨rfl, hall⟩ | ⟨rfl, hex⟩
      · obtain ⟨qs, hM⟩ := hMd hall
        refine lv_istore_n (lv' := [(2, .int 0), (0, .ref h0), (1, .int p0)]) hx hb dX2_back_26 rfl hl (by decide) rfl (fun ls hl => ?_)
        refine lv_iload_n hx hb dX2_back_27 rfl (lv_at hl 0 rfl) ?_
        refine lv_if_ne (tgt := 36) hx hb dX2_back_28 (by decide) (fun c9 => absurd c9 (by decide)) (fun _ => ?_)
        refine lv_aload_n hx hb dX2_back_31 rfl (lv_at hl 1 rfl) ?_
        have hEm := hE0
        have hFc := pl_free hD hS hA
        obtain ⟨q1_12, pc_12, c1_12, c2_12, c3_12, q5_12, fc_12, q7_12, mc_12, e_12, fq1_12, fc1_12, fc2_12, fc3_12, fq5_12, ffc_12, fq7_12, fmc_12⟩ := hPI.a2 fe_11
        obtain ⟨k_12, hk_12⟩ := va_plg fe_11.1 e_12
        refine va_calli (va_runV (b := h0) (As := []) (rest := []) ⟨hx, hb, hml, hown, hts⟩ (u_X2_fillFromLeaves l dC dI TT H.size kT kI kJ K_9 L_10 f_8 hPI h0 fe_11 K L f hEm hh0 hPI0 _ owl qs _ _ _ _ hM ll hLS0) (cwV 0 hts gX2_back_X2_fillFromLeaves rfl rfl rfl (by decide +kernel) ⟨Nat.le_of_ble_eq_true rfl, Nat.le_of_ble_eq_true rfl⟩) ⟨pr_blind, va_recv hK hP (ci := 2) rfl hk_12, (pr_S (ws := va_pl L_10 f_8) (wA := va_pl L_10 f_8) (tys := [(kT, .object RX1), (kI, .int), (kJ, .long)]) hP hK (hD.weaken (fun _ _ _ _ => trivial)) hst hS hFc).2⟩ rfl rfl hl.1 rfl (lv_room (Nat.le_of_ble_eq_true rfl)) dX2_back_32 ⟨Nat.le_of_ble_eq_true rfl, Nat.le_of_ble_eq_true rfl⟩) hS (fun q _ h => hFc q h) hFc (fun r_13 u t H1 locs ht hvm hw hB hz1 hk1 hS => ?_)
        obtain ⟨K_15, L_16, f_14, hPI, hE, hrel, hP, hD9⟩ := hB
        rw [ht] at hP
        have hD := hD9.weaken (fun _ q _ h => hFc q.1 h)
        have fe_17 := fe_11.ext hE
        have hE0 := EXT.tr hE0 hE
        generalize H1 = H at hP hS ⊢
        refine W.widen (k := 903) (n := 12943) (by omega) (by omega) ?_
        have hq_18 := hw
        obtain ⟨ow2, V2, N2, R2, hM2, hst⟩ := hrel
        refine lv_istore_n (lv' := [(2, .int r_13), (0, .ref h0), (1, .int p0)]) hx hb dX2_back_35 rfl hl (by decide) rfl (fun ls hl => ?_)
        refine lv_iload_n hx hb dX2_back_36 rfl (lv_at hl 0 rfl) ?_
        refine lv_if_eq (tgt := 42) hx hb dX2_back_37 (by decide) (fun c_19 => ?_) (fun c_19 => ?_)
        · have c_19 := congrArg Int32.toInt c_19
          refine lv_aload_n hx hb dX2_back_42 rfl (lv_at hl 1 rfl) ?_
          obtain ⟨q1_20, pc_20, c1_20, c2_20, c3_20, q5_20, fc_20, q7_20, mc_20, e_20, fq1_20, fc1_20, fc2_20, fc3_20, fq5_20, ffc_20, fq7_20, fmc_20⟩ := hPI.a2 fe_17
          obtain ⟨k_20, hk_20⟩ := va_plg fe_17.1 e_20
          refine va_get (D := (dC, dI)) (ci := 2) (v := .ref q1_20) (C := RX2) (T := TX2) (N := 9) hx hb hts iX2_ hown hK hP k_20 hk_20 rfl 0 (by decide) (hts (.fieldLink RX2 11 "FieldLeaves" "slots" "[LFieldLeaves$Thing;") (by decide +kernel)) (fun _ h9 => h9) rfl dX2_back_43 ?_
          refine lv_iload_n hx hb dX2_back_46 rfl (lv_at hl 2 rfl) ?_
          refine lv_aload_n hx hb dX2_back_47 rfl (lv_at hl 1 rfl) ?_
          obtain ⟨k_21, hk_21⟩ := va_plg fe_17.1 e_20
          refine va_get (D := (dC, dI)) (ci := 2) (v := .ref q7_20) (C := RX2) (T := TX2) (N := 9) hx hb hts iX2_ hown hK hP k_21 hk_21 rfl 7 (by decide) (hts (.fieldLink RX2 31 "FieldLeaves" "made" "[LFieldLeaves$Thing;") (by decide +kernel)) (fun _ h9 => h9) rfl dX2_back_48 ?_
          refine lv_iconst (v := 0) hx hb dX2_back_51 (by decide) ?_
          obtain ⟨g_22, e_22, fg_22⟩ := hPI.a6 fq7_20
          obtain ⟨k_22, hk_22⟩ := va_plg fq7_20.1 e_22
          have h_22 : vp_in 0 24 := (vp_in_iff.mpr (by decide))
          refine va_aldq hx hb hK hP k_22 0 hk_22 rfl h_22 dX2_back_52 ?_
          have fo_22 := fg_22 _ (vp_lt h_22)
          generalize eo_22 : g_22 (Int32.toNatClampNeg 0) = o_22 at fo_22 ⊢
          have hmd := (hM2.2.2.1.2 0 hpos).1
          rw [ob_q7 e_20, e_22] at hmd
          have hmcn := hM2.2.2.1.1
          rw [ob_mc e_20] at hmcn
          have hEb := hE0
          have hPIb := hPI
          rcases o_22 with _ | y_23
          · have h9 : none = some (qs 0) := eo_22.symm.trans (by rw [cl_0]; exact hmd)
            cases h9
          · have fy_23 := fo_22 y_23 rfl
            have hyq : y_23 = qs 0 := Option.some.inj (eo_22.symm.trans (by rw [cl_0]; exact hmd))
            refine W.eq (g2 := F0 m 53 ls [.ref y_23, .int p0, .ref q1_20]) rfl ?_
            obtain ⟨g_24, e_24, fg_24⟩ := hPI.a5 fq1_20
            obtain ⟨k_24, hk_24⟩ := va_plg fq1_20.1 e_24
            have h_24 : vp_in p0 12 := (vp_in_iff.mpr (by constructor <;> omega))
            obtain ⟨cn_25, v_25, b_25, m_25, st_25, i_25, e_25, fv_25, fb_25, fm_25, fst_25, fi_25⟩ := hPI.a1 fy_23
            obtain ⟨k_25, hk_25⟩ := va_plg fy_23.1 e_25
            have hD9 := hD
            refine va_astq hx hb hK hP hD hS k_24 0 k_25 1 hk_24 rfl hk_25 rfl h_24 dX2_back_53 (fun H locs hP hD hS => ?_)
            have fg2_24 := upr_all (k := Int32.toNatClampNeg p0) (o := (some y_23)) fg_24 (fun _ h9 => by cases h9; exact fy_23)
            have hP : va_P (dC, dI) vwCl (va_pl L_16 (va_up f_14 q1_20 (.inl (kT, 12, .inr (.inr (.inr (.inr (va_up g_24 (Int32.toNatClampNeg p0) (some y_23))))))))) H := by rw [← va_pls hD9 fq1_20.1 hk_24 _]; exact hP
            have hD : va_D A (va_pl L_16 (va_up f_14 q1_20 (.inl (kT, 12, .inr (.inr (.inr (.inr (va_up g_24 (Int32.toNatClampNeg p0) (some y_23))))))))) := by rw [← va_pls hD9 fq1_20.1 hk_24 _]; exact hD
            have hPI := hPI.put (e := .inl (kT, 12, .inr (.inr (.inr (.inr (va_up g_24 (Int32.toNatClampNeg p0) (some y_23))))))) fq1_20 ⟨_, rfl, fg2_24⟩
            have es_f_26 : va_up f_14 q1_20 (.inl (kT, 12, .inr (.inr (.inr (.inr (va_up g_24 (Int32.toNatClampNeg p0) (some y_23))))))) q1_20 = .inl (kT, 12, .inr (.inr (.inr (.inr (va_up g_24 (Int32.toNatClampNeg p0) (some y_23)))))) := va_up_self _ _ _
            have eq_27 := (va_up_ne f_14 (.inl (kT, 12, .inr (.inr (.inr (.inr (va_up g_24 (Int32.toNatClampNeg p0) (some y_23))))))) (isr_ne fe_17 fq1_20 (by decide))).trans e_20
            have eq_28 := (va_up_ne f_14 (.inl (kT, 12, .inr (.inr (.inr (.inr (va_up g_24 (Int32.toNatClampNeg p0) (some y_23))))))) (isr_ne fy_23 fq1_20 (by decide))).trans e_25
            have eq_29 := (va_up_ne f_14 (.inl (kT, 12, .inr (.inr (.inr (.inr (va_up g_24 (Int32.toNatClampNeg p0) (some y_23))))))) (isr_ne fq7_20 fq1_20 (by decide))).trans e_22
            generalize hg_f_26 : va_up f_14 q1_20 (.inl (kT, 12, .inr (.inr (.inr (.inr (va_up g_24 (Int32.toNatClampNeg p0) (some y_23))))))) = f_26 at hP hD hPI es_f_26 eq_27 eq_28 eq_29
            refine lv_aload_n hx hb dX2_back_54 rfl (lv_at hl 1 rfl) ?_
            obtain ⟨k_30, hk_30⟩ := va_plg fe_17.1 eq_27
            refine va_get (D := (dC, dI)) (ci := 2) (v := .int mc_20) (C := RX2) (T := TX2) (N := 9) hx hb hts iX2_ hown hK hP k_30 hk_30 rfl 8 (by decide) (hts (.fieldLink RX2 147 "FieldLeaves" "madeCount" "I") (by decide +kernel)) (fun _ h9 => h9) rfl dX2_back_55 ?_
            refine W.widen (k := 903) (n := 12943) (by omega) (by omega) ?_
            exact W.iret (v := mc_20) hx hb hr (fun t ht hW => ⟨⟨mc_20, (), rfl, ⟨fun h8 => absurd (by omega) h8, fun _ h8 => absurd h8 (fun h7 => absurd (((bk_len (show LSv z_4 _ _ _ ll from by have h7 := hLS0; unfold LSt at h7; rw [ob_c1 e_3, li_z e_4] at h7; exact h7)).mpr h7)) (by omega)), fun _ _ h8 => by obtain ⟨x, h5, h6⟩ := h8; exact absurd (hall x h5) h6, fun _ _ _ h8 => absurd (show fcl (mkl ll).length (csM (mkl ll)) ll = 0 from by rw [← hq_18]; exact Int32.toInt_inj.mp (by omega)) h8, fun _ => hmcn⟩, K_15, L_16, f_26, hPI, hE0, ⟨ow2, bk_own hh0 hEb hPIb hM2.2.1 fq1_20 hg_f_26, fun h8 => absurd (show bkok ll p0 from ⟨by omega, (fun h7 => absurd (((bk_len (show LSv z_4 _ _ _ ll from by have h7 := hLS0; unfold LSt at h7; rw [ob_c1 e_3, li_z e_4] at h7; exact h7)).mpr h7)) (by omega)), hall, (show fcl (mkl ll).length (csM (mkl ll)) ll = 0 from by rw [← hq_18]; exact Int32.toInt_inj.mp (by omega))⟩) h8, fun _ => ⟨f_14, qs, by rw [← (hst (show fcl (mkl ll).length (csM (mkl ll)) ll = 0 from by rw [← hq_18]; exact Int32.toInt_inj.mp (by omega))).1, ← (hst (show fcl (mkl ll).length (csM (mkl ll)) ll = 0 from by rw [← hq_18]; exact Int32.toInt_inj.mp (by omega))).2.1, ← (hst (show fcl (mkl ll).length (csM (mkl ll)) ll = 0 from by rw [← hq_18]; exact Int32.toInt_inj.mp (by omega))).2.2]; exact hM2, by rw [← hM2.1.2.1, ob_q1 e_20, s_R_of e_24, ← hyq]; exact hg_f_26.symm⟩⟩, by rw [ht]; exact hP, hD⟩, hS.F ht⟩) hS.2.2 dX2_back_58
        · have c_19 := mt Int32.toInt_inj.mp c_19
          refine lv_iload_n hx hb dX2_back_40 rfl (lv_at hl 0 rfl) ?_
          refine W.widen (k := 903) (n := 12943) (by omega) (by omega) ?_
          exact W.iret (v := r_13) hx hb hr (fun t ht hW => ⟨⟨r_13, (), rfl, ⟨fun h8 => absurd (by omega) h8, fun _ h8 => absurd h8 (fun h7 => absurd (((bk_len (show LSv z_4 _ _ _ ll from by have h7 := hLS0; unfold LSt at h7; rw [ob_c1 e_3, li_z e_4] at h7; exact h7)).mpr h7)) (by omega)), fun _ _ h8 => by obtain ⟨x, h5, h6⟩ := h8; exact absurd (hall x h5) h6, fun _ _ _ _ => hq_18, fun h8 => absurd h8.2.2.2 (show ¬ fcl (mkl ll).length (csM (mkl ll)) ll = 0 from by rw [← hq_18]; exact mt (congrArg Int32.toInt) (by omega))⟩, K_15, L_16, f_14, hPI, hE0, ⟨ow2, hM2.2.1, fun _ => hM2.1, fun h8 => absurd h8.2.2.2 (show ¬ fcl (mkl ll).length (csM (mkl ll)) ll = 0 from by rw [← hq_18]; exact mt (congrArg Int32.toInt) (by omega))⟩, by rw [ht]; exact hP, hD⟩, hS.F ht⟩) hS.2.2 dX2_back_41
      · refine lv_istore_n (lv' := [(2, .int (-18)), (0, .ref h0), (1, .int p0)]) hx hb dX2_back_26 rfl hl (by decide) rfl (fun ls hl => ?_)
        refine lv_iload_n hx hb dX2_back_27 rfl (lv_at hl 0 rfl) ?_
        refine lv_if_ne (tgt := 36) hx hb dX2_back_28 (by decide) (fun _ => ?_) (fun c9 => absurd c9 (by decide))
        refine lv_iload_n hx hb dX2_back_36 rfl (lv_at hl 0 rfl) ?_
        refine lv_if_eq (tgt := 42) hx hb dX2_back_37 (by decide) (fun c9 => absurd c9 (by decide)) (fun _ => ?_)
        refine lv_iload_n hx hb dX2_back_40 rfl (lv_at hl 0 rfl) ?_
        refine W.widen (k := 903) (n := 12943) (by omega) (by omega) ?_
        exact W.iret (v := (-18)) hx hb hr (fun t ht hW => ⟨⟨(-18), (), rfl, ⟨fun h8 => absurd (by omega) h8, fun _ h8 => absurd h8 (fun h7 => absurd (((bk_len (show LSv z_4 _ _ _ ll from by have h7 := hLS0; unfold LSt at h7; rw [ob_c1 e_3, li_z e_4] at h7; exact h7)).mpr h7)) (by omega)), fun _ _ _ => rfl, fun _ _ h8 => absurd hex (by rintro ⟨x, h5, h6⟩; exact h6 (h8 x h5)), fun h8 => absurd hex (by rintro ⟨x, h5, h6⟩; exact h6 (h8.2.2.1 x h5))⟩, K_9, L_10, f_8, hPI, hE0, ⟨owl, hOWl, fun _ => hFr, fun h8 => absurd hex (by rintro ⟨x, h5, h6⟩; exact h6 (h8.2.2.1 x h5))⟩, by rw [ht]; exact hP, hD⟩, hS.F ht⟩) hS.2.2 dX2_back_41
    · have c_5 := congrArg Int32.toInt c_5
      refine lv_bipush (v := (-3)) hx hb dX2_back_19 (by decide) ?_
      refine W.widen (k := 903) (n := 12943) (by omega) (by omega) ?_
      exact W.iret (v := (-3)) hx hb hr (fun t ht hW => ⟨⟨(-3), (), rfl, ⟨fun h8 => absurd (by omega) h8, fun _ _ => rfl, fun _ h8 => absurd ((bk_len (show LSv z_4 _ _ _ ll from by have h7 := hLS0; unfold LSt at h7; rw [ob_c1 e_3, li_z e_4] at h7; exact h7)).mp (by omega)) h8, fun _ h8 => absurd ((bk_len (show LSv z_4 _ _ _ ll from by have h7 := hLS0; unfold LSt at h7; rw [ob_c1 e_3, li_z e_4] at h7; exact h7)).mp (by omega)) h8, fun h8 => absurd ((bk_len (show LSv z_4 _ _ _ ll from by have h7 := hLS0; unfold LSt at h7; rw [ob_c1 e_3, li_z e_4] at h7; exact h7)).mp (by omega)) h8.2.1⟩, K, L, f, hPI, EXT.rf, ⟨ow, hOW0, fun _ => ⟨fun _ _ _ _ => rfl, PHM.rf⟩, fun h8 => absurd ((bk_len (show LSv z_4 _ _ _ ll from by have h7 := hLS0; unfold LSt at h7; rw [ob_c1 e_3, li_z e_4] at h7; exact h7)).mp (by omega)) h8.2.1⟩, by rw [ht]; exact hP, hD⟩, hS.F ht⟩) hS.2.2 dX2_back_21
  · refine lv_if_ne (tgt := 9) hx hb dX2_back_4 (by decide) (fun c9 => absurd c9 (by decide)) (fun _ => ?_)
    refine lv_iconst (v := (-1)) hx hb dX2_back_7 (by decide) ?_
    refine W.widen (k := 903) (n := 12943) (by omega) (by omega) ?_
    exact W.iret (v := (-1)) hx hb hr (fun t ht hW => ⟨⟨(-1), (), rfl, ⟨fun _ => rfl, fun h8 => absurd h8 (by omega), fun h8 => absurd h8 (by omega), fun h8 => absurd h8 (by omega), fun h8 => absurd h8.1 (by omega)⟩, K, L, f, hPI, EXT.rf, ⟨ow, hOW0, fun _ => ⟨fun _ _ _ _ => rfl, PHM.rf⟩, fun h8 => absurd h8.1 (by omega)⟩, by rw [ht]; exact hP, hD⟩, hS.F ht⟩) hS.2.2 dX2_back_8

