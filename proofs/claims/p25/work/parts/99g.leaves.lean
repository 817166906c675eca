-- WHAT leaves, make, row ANSWER AND CHANGE
def ks_lv (f : Nat → va_E) (h : Nat) (s r : Int32) : Prop := if (0 ≤ s.toInt ∧ s.toInt < 12) then (match g_sl f h (Int32.toNatClampNeg s) with
  | none => r = -11
  | some x => (match tlS (-1) (g_cn f) (g_vl f) (g_lk f) (g_rw f) x with
    | none => r = -3
    | some ls => r.toInt = (ls.length : Int))) else r = -1
def ks_lvh (K : Nat → Nat) (L : List Nat) (ow : Nat → Nat) (f : Nat → va_E) (h : Nat) (s : Int32) (f2 : Nat → va_E) : Prop := if (0 ≤ s.toInt ∧ s.toInt < 12) then (match g_sl f h (Int32.toNatClampNeg s) with
  | none => f2 = f
  | some x => (match tlS (-1) (g_cn f) (g_vl f) (g_lk f) (g_rw f) x with
    | none => TF K L ow (cP (f h) 3) h f f2
    | some ls => ∃ f1, TF K L ow (cP (f h) 3) h f f1 ∧ LSt f1 (cP (f h) 3) ls ∧ f2 = s_F (s_F f1 h 2 (.ref (cP (f h) 3))) h 3 (.ref (cP (f h) 2)))) else f2 = f
def ks_vals (c n : Int32) : Nat → Int64 := if c.toInt = 2 then vp_updL (fun _ => 0) (Int32.toNatClampNeg 13) n.toInt64 else if c.toInt = 4 then vp_updL (fun _ => 0) (Int32.toNatClampNeg 16) n.toInt64 else fun _ => 0
def ks_mk (kJ : ClassId) (K : Nat → Nat) (L : List Nat) (f : Nat → va_E) (h : Nat) (s c n : Int32) (K2 : Nat → Nat) (L2 : List Nat) (f2 : Nat → va_E) : Prop := (¬ ((0 ≤ s.toInt ∧ s.toInt < 12) ∧ (0 ≤ c.toInt ∧ c.toInt ≤ 4) ∧ (¬ c.toInt = 2 ∨ (0 ≤ n.toInt ∧ n.toInt ≤ 1000))) ∧ K2 = K ∧ L2 = L ∧ f2 = f) ∨ (((0 ≤ s.toInt ∧ s.toInt < 12) ∧ (0 ≤ c.toInt ∧ c.toInt ≤ 4) ∧ (¬ c.toInt = 2 ∨ (0 ≤ n.toInt ∧ n.toInt ≤ 1000))) ∧ ∃ q u : Nat, (q ∉ L ∧ u ∉ L ∧ q ≠ u ∧ K2 = va_up (va_up K u 3) q 1 ∧ L2 = q :: u :: L) ∧ f2 = s_R (va_up (va_up f u (.inl (kJ, 17, .inr (.inl (ks_vals c n))))) q (.inr (1, [.int c, .ref u, va_rf none, va_rf none, va_rf none, va_rf none]))) (cP (f h) 0) (Int32.toNatClampNeg s) (some q))
def ks_rw (S : Nat → Option Nat) (C : Nat → Int32) (s n : Int32) : Int32 := if (0 ≤ s.toInt ∧ s.toInt < 12) ∧ n.toInt ≤ 20 then (match S (Int32.toNatClampNeg s) with
  | none => if n.toInt < 0 ∧ ¬ n.toInt = -4 then -13 else -11
  | some x => if (0 ≤ (C x).toInt ∧ (C x).toInt ≤ 2) then (if n.toInt < 0 ∧ ¬ n.toInt = -4 then -13 else n) else -14) else -1
def ks_rwh (kI : ClassId) (K : Nat → Nat) (L : List Nat) (f : Nat → va_E) (h : Nat) (s n : Int32) (K2 : Nat → Nat) (L2 : List Nat) (f2 : Nat → va_E) : Prop := ((∀ x, (0 ≤ s.toInt ∧ s.toInt < 12) → g_sl f h (Int32.toNatClampNeg s) = some x → n.toInt ≤ 20 → (0 ≤ n.toInt ∨ n.toInt = -4) → ¬ (0 ≤ (g_cn f x).toInt ∧ (g_cn f x).toInt ≤ 2)) ∧ K2 = K ∧ L2 = L ∧ f2 = f) ∨ ∃ x, ((0 ≤ s.toInt ∧ s.toInt < 12) ∧ g_sl f h (Int32.toNatClampNeg s) = some x ∧ n.toInt ≤ 20 ∧ (0 ≤ (g_cn f x).toInt ∧ (g_cn f x).toInt ≤ 2)) ∧ ((n.toInt = -4 ∧ K2 = K ∧ L2 = L ∧ f2 = s_F f x 5 (va_rf none)) ∨ (0 ≤ n.toInt ∧ ∃ q : Nat, (q ∉ L ∧ K2 = va_up K q 4 ∧ L2 = q :: L) ∧ f2 = s_F (va_up f q (.inl (kI, (Int32.toNatClampNeg n), .inl (fun _ => 0)))) x 5 (va_rf (some q))))
set_option maxRecDepth 20000 in
theorem in_u_X2_leaves_X0 : ∀ w ∈ u_ws RX0 TX0 4, w ∈ wsX2_leaves := by decide +kernel
set_option maxRecDepth 20000 in
theorem in_u_X2_leaves_X2 : ∀ w ∈ u_ws RX2 TX2 9, w ∈ wsX2_leaves := by decide +kernel
set_option maxRecDepth 100000 in
set_option maxHeartbeats 4000000 in
theorem u_X2_leaves (l : Launch) (dC : Nat → ClassId) (dI : Nat → Nat → Nat) (TT : Nat × Nat × Nat) (sz : Nat) (kT kI kJ : ClassId) (K : Nat → Nat) (L : List Nat) (f : Nat → va_E) (hPI : PI kT kI kJ K L f) (h0 : Nat) (hh0 : isr K L 2 h0) (p0 : Int32) (ow : Nat → Nat) (hOW0 : OWN K L f ow) : Met l yX2_leaves wsX2_leaves ({ frames := 5, cells := 0, slots := 0, locals := 121 } : Room) (va_Pc [.ref h0, .int p0] (pr dC dI (va_pl L f) (va_pl L f) [(kT, .object RX1), (kI, .int), (kJ, .long)] sz TT)) (va_Qi (fun (r : Int32) (u : Unit) => ks_lv f h0 p0 r) (fun (_ : Unit) t => ∃ f2 : Nat → va_E, PI kT kI kJ K L f2 ∧ (ks_lvh K L ow f h0 p0 f2) ∧ va_P (dC, dI) vwCl (va_pl L f2) t.heap ∧ va_D (va_A (va_pl L f) sz) (va_pl L f2)) (va_A (va_pl L f) sz)) 0 0 (va_A (va_pl L f) sz) := by
  refine Met.ofW (cc := cX2_leaves) (maxL := 4) (ret := (some .int)) (by decide) rfl ?_
  intro p e s m args below meth c s₁ B hml hv
  obtain ⟨rfl, hsz, hP, hK, hD0, hst⟩ := hv
  have hx := B.exec
  have hb := B.bytes
  have hr := B.returns
  have hts := atoms_spec (ws := wsX2_leaves) B.pre
  have hown : s.vm.findClass RX2 = some m.cls := findClass_of_methodNamed B.named
  have hlocks := B.notSynchronized
  have iX0_ := in_u_X2_leaves_X0
  have iX2_ := in_u_X2_leaves_X2
  subst hsz
  have hD := hD0.self (sz := s.heap.size)
  generalize hAe : va_A (va_pl L f) s.heap.size = A at hD hst ⊢
  have hA : ∀ q : Nat, s.heap.size ≤ q → A q := fun q h => by rw [← hAe]; exact Or.inr h
  have hS : va_S A s.heap s.heap [] := va_S.rf
  have hl := lv_entry ([.ref h0, .int p0]) (n := 4) (Nat.le_of_ble_eq_true rfl)
  rw [lg_entry_eq]
  generalize (lg_sl ([.ref h0, .int p0]) ++ List.replicate (4 - (lg_sl ([.ref h0, .int p0])).length) Slot.unset).toArray = ls at hl ⊢
  have hl : lv_has ls 4 [(0, .ref h0), (1, .int p0)] := hl
  have km11_ : Int32.toInt (-11) = -11 := by decide
  have km3_ : Int32.toInt (-3) = -3 := by decide
  have km1_ : Int32.toInt (-1) = -1 := by decide
  refine lv_iload_n hx hb dX2_leaves_0 rfl (lv_at hl 1 rfl) ?_
  refine va_calli (va_runS (As := [.int p0]) (rest := []) ⟨hx, hb, hml, hown, hts⟩ (c_X2_isSlot l dC dI TT s.heap.size p0) (va_cwS 1 hts gX2_leaves_X2_isSlot rfl rfl rfl (by decide +kernel) ⟨Nat.le_of_ble_eq_true rfl, Nat.le_of_ble_eq_true rfl⟩) (pr_S (ws := []) (wA := []) (tys := []) vp_nil (hK.sub [] rfl) vd_nil hst hS (ro_free hS hA)) rfl rfl hl.1 rfl (lv_room (Nat.le_of_ble_eq_true rfl)) dX2_leaves_1 ⟨Nat.le_of_ble_eq_true rfl, Nat.le_of_ble_eq_true rfl⟩) hS (fun q _ h => (ro_free hS hA) q h) (ro_free hS hA) (fun r_1 u t H1 locs ht hvm hw hB hz1 hk1 hS => ?_)
  have hP := ro_keep hP hk1
  generalize H1 = H at hP hS ⊢
  rcases hw with ⟨rfl, hp_2⟩ | ⟨rfl, hp_2⟩
  · refine lv_if_ne (tgt := 9) hx hb dX2_leaves_4 (by decide) (fun _ => ?_) (fun c9 => absurd c9 (by decide))
    refine lv_aload_n hx hb dX2_leaves_9 rfl (lv_at hl 0 rfl) ?_
    obtain ⟨q1_3, pc_3, c1_3, c2_3, c3_3, q5_3, fc_3, q7_3, mc_3, e_3, fq1_3, fc1_3, fc2_3, fc3_3, fq5_3, ffc_3, fq7_3, fmc_3⟩ := hPI.a2 hh0
    obtain ⟨k_3, hk_3⟩ := va_plg hh0.1 e_3
    refine va_get (D := (dC, dI)) (ci := 2) (v := .ref q1_3) (C := RX2) (T := TX2) (N := 9) hx hb hts iX2_ hown hK hP k_3 hk_3 rfl 0 (by decide) (hts (.fieldLink RX2 11 "FieldLeaves" "slots" "[LFieldLeaves$Thing;") (by decide +kernel)) (fun _ h9 => h9) rfl dX2_leaves_10 ?_
    refine lv_iload_n hx hb dX2_leaves_13 rfl (lv_at hl 1 rfl) ?_
    obtain ⟨g_4, e_4, fg_4⟩ := hPI.a5 fq1_3
    obtain ⟨k_4, hk_4⟩ := va_plg fq1_3.1 e_4
    have h_4 : vp_in p0 12 := (vp_in_iff.mpr (by constructor <;> omega))
    refine va_aldq hx hb hK hP k_4 0 hk_4 rfl h_4 dX2_leaves_14 ?_
    have fo_4 := fg_4 _ (vp_lt h_4)
    generalize eo_4 : g_4 (Int32.toNatClampNeg p0) = o_4 at fo_4 ⊢
    rcases o_4 with _ | y_5
    · refine W.eq (g2 := F0 m 15 ls [.null]) rfl ?_
      refine lv_astore_nN (lv' := [(2, .null), (0, .ref h0), (1, .int p0)]) hx hb dX2_leaves_15 rfl hl (by decide) rfl (fun ls hl => ?_)
      refine lv_aload_nN hx hb dX2_leaves_16 rfl (lv_at hl 0 rfl) ?_
      refine lv_ifnonnullN hx hb dX2_leaves_17 ?_
      refine lv_bipush (v := (-11)) hx hb dX2_leaves_20 (by decide) ?_
      exact W.iret (v := (-11)) hx hb hr (fun t ht hW => ⟨⟨(-11), (), rfl, (by simp only [ks_lv, ob_c2 e_3, ob_c1 e_3, ob_sl e_3 e_4, eo_4] <;> (repeat' split) <;> first | rfl | (exfalso; omega) | contradiction | (simp_all; done)), f, hPI, (by simp only [ks_lvh, ob_c2 e_3, ob_c1 e_3, ob_sl e_3 e_4, eo_4] <;> (repeat' split) <;> first | rfl | (exfalso; omega) | contradiction | (simp_all; done)), by rw [ht]; exact hP, hD⟩, hS.F ht⟩) hS.2.2 dX2_leaves_22
    · have fy_5 := fo_4 y_5 rfl
      refine W.eq (g2 := F0 m 15 ls [.ref y_5]) rfl ?_
      refine lv_astore_n (lv' := [(2, .ref y_5), (0, .ref h0), (1, .int p0)]) hx hb dX2_leaves_15 rfl hl (by decide) rfl (fun ls hl => ?_)
      refine lv_aload_n hx hb dX2_leaves_16 rfl (lv_at hl 0 rfl) ?_
      refine lv_ifnonnull (tgt := 23) hx hb dX2_leaves_17 (by decide) ?_
      refine lv_aload_n hx hb dX2_leaves_23 rfl (lv_at hl 1 rfl) ?_
      refine lv_aload_n hx hb dX2_leaves_24 rfl (lv_at hl 0 rfl) ?_
      refine lv_aload_n hx hb dX2_leaves_25 rfl (lv_at hl 1 rfl) ?_
      obtain ⟨k_6, hk_6⟩ := va_plg hh0.1 e_3
      refine va_get (D := (dC, dI)) (ci := 2) (v := .ref c2_3) (C := RX2) (T := TX2) (N := 9) hx hb hts iX2_ hown hK hP k_6 hk_6 rfl 3 (by decide) (hts (.fieldLink RX2 22 "FieldLeaves" "spare" "LFieldLeaves$LeafList;") (by decide +kernel)) (fun _ h9 => h9) rfl dX2_leaves_26 ?_
      have hFc := pl_free hD hS hA
      obtain ⟨k_7, hk_7⟩ := va_plg hh0.1 e_3
      refine va_calli (va_runV (b := h0) (As := [.ref y_5, .ref c2_3]) (rest := []) ⟨hx, hb, hml, hown, hts⟩ (u_X2_tell l dC dI TT H.size kT kI kJ K L f hPI h0 hh0 y_5 fy_5 c2_3 fc2_3 ow hOW0) (cwV 2 hts gX2_leaves_X2_tell rfl rfl rfl (by decide +kernel) ⟨Nat.le_of_ble_eq_true rfl, Nat.le_of_ble_eq_true rfl⟩) ⟨pr_blind, va_recv hK hP (ci := 2) rfl hk_7, (pr_S (ws := va_pl L f) (wA := va_pl L f) (tys := [(kT, .object RX1), (kI, .int), (kJ, .long)]) hP hK (hD.weaken (fun _ _ _ _ => trivial)) hst hS hFc).2⟩ rfl rfl hl.1 rfl (lv_room (Nat.le_of_ble_eq_true rfl)) dX2_leaves_29 ⟨Nat.le_of_ble_eq_true rfl, Nat.le_of_ble_eq_true rfl⟩) hS (fun q _ h => hFc q h) hFc (fun r_8 u t H1 locs ht hvm hw hB hz1 hk1 hS => ?_)
      obtain ⟨f_9, hPI, hrel, hP, hD9⟩ := hB
      rw [ht] at hP
      have hD := hD9.weaken (fun _ q _ h => hFc q.1 h)
      generalize H1 = H at hP hS ⊢
      obtain ⟨hTF, hLSf⟩ := hrel
      rcases hw with ⟨rfl, hp_10⟩ | ⟨rfl, hp_10⟩
      · obtain ⟨ls, hls⟩ := Option.isSome_iff_exists.mp hp_10
        have hLS := hLSf ls hls
        refine lv_if_ne (tgt := 38) hx hb dX2_leaves_32 (by decide) (fun _ => ?_) (fun c9 => absurd c9 (by decide))
        refine lv_aload_n hx hb dX2_leaves_38 rfl (lv_at hl 1 rfl) ?_
        obtain ⟨q1_11, pc_11, c1_11, c2_11, c3_11, q5_11, fc_11, q7_11, mc_11, e_11, fq1_11, fc1_11, fc2_11, fc3_11, fq5_11, ffc_11, fq7_11, fmc_11⟩ := hPI.a2 hh0
        obtain ⟨k_11, hk_11⟩ := va_plg hh0.1 e_11
        refine va_get (D := (dC, dI)) (ci := 2) (v := .ref c1_11) (C := RX2) (T := TX2) (N := 9) hx hb hts iX2_ hown hK hP k_11 hk_11 rfl 2 (by decide) (hts (.fieldLink RX2 18 "FieldLeaves" "current" "LFieldLeaves$LeafList;") (by decide +kernel)) (fun _ h9 => h9) rfl dX2_leaves_39 ?_
        refine lv_astore_n (lv' := [(3, .ref c1_11), (2, .ref y_5), (0, .ref h0), (1, .int p0)]) hx hb dX2_leaves_42 rfl hl (by decide) rfl (fun ls hl => ?_)
        refine lv_aload_n hx hb dX2_leaves_43 rfl (lv_at hl 2 rfl) ?_
        refine lv_aload_n hx hb dX2_leaves_44 rfl (lv_at hl 2 rfl) ?_
        obtain ⟨k_12, hk_12⟩ := va_plg hh0.1 e_11
        refine va_get (D := (dC, dI)) (ci := 2) (v := .ref c2_11) (C := RX2) (T := TX2) (N := 9) hx hb hts iX2_ hown hK hP k_12 hk_12 rfl 3 (by decide) (hts (.fieldLink RX2 22 "FieldLeaves" "spare" "LFieldLeaves$LeafList;") (by decide +kernel)) (fun _ h9 => h9) rfl dX2_leaves_45 ?_
        obtain ⟨k_13, hk_13⟩ := va_plg hh0.1 e_11
        have hD9 := hD
        refine va_put (D := (dC, dI)) (ci := 2) (v := .ref c2_11) (ty := .object "FieldLeaves$LeafList") (C := RX2) (T := TX2) (N := 9) hx hb hts iX2_ tyX2 tyX2_ok nmX2 hown hK hP hD hS k_13 hk_13 rfl 2 (by decide) (hts (.fieldLink RX2 18 "FieldLeaves" "current" "LFieldLeaves$LeafList;") (by decide +kernel)) (fun _ h9 => h9) rfl (by decide +kernel) rfl rfl (Nat.le_of_ble_eq_true rfl) dX2_leaves_48 (fun H locs hP hD hS => ?_)
        have hP : va_P (dC, dI) vwCl (va_pl L (va_up f_9 h0 (.inr (2, [.ref q1_11, .int pc_11, .ref c2_11, .ref c2_11, .ref c3_11, .ref q5_11, .int fc_11, .ref q7_11, .int mc_11])))) H := by rw [← va_pls hD9 hh0.1 hk_13 _]; exact hP
        have hD : va_D A (va_pl L (va_up f_9 h0 (.inr (2, [.ref q1_11, .int pc_11, .ref c2_11, .ref c2_11, .ref c3_11, .ref q5_11, .int fc_11, .ref q7_11, .int mc_11])))) := by rw [← va_pls hD9 hh0.1 hk_13 _]; exact hD
        have hPI := hPI.put (e := .inr (2, [.ref q1_11, .int pc_11, .ref c2_11, .ref c2_11, .ref c3_11, .ref q5_11, .int fc_11, .ref q7_11, .int mc_11])) hh0 ⟨q1_11, pc_11, c2_11, c2_11, c3_11, q5_11, fc_11, q7_11, mc_11, rfl, fq1_11, fc2_11, fc2_11, fc3_11, fq5_11, ffc_11, fq7_11, fmc_11⟩
        have es_f_14 : va_up f_9 h0 (.inr (2, [.ref q1_11, .int pc_11, .ref c2_11, .ref c2_11, .ref c3_11, .ref q5_11, .int fc_11, .ref q7_11, .int mc_11])) h0 = .inr (2, [.ref q1_11, .int pc_11, .ref c2_11, .ref c2_11, .ref c3_11, .ref q5_11, .int fc_11, .ref q7_11, .int mc_11]) := va_up_self _ _ _
        generalize hg_f_14 : va_up f_9 h0 (.inr (2, [.ref q1_11, .int pc_11, .ref c2_11, .ref c2_11, .ref c3_11, .ref q5_11, .int fc_11, .ref q7_11, .int mc_11])) = f_14 at hP hD hPI es_f_14 
        refine lv_aload_n hx hb dX2_leaves_51 rfl (lv_at hl 2 rfl) ?_
        refine lv_aload_n hx hb dX2_leaves_52 rfl (lv_at hl 0 rfl) ?_
        obtain ⟨k_15, hk_15⟩ := va_plg hh0.1 es_f_14
        have hD9 := hD
        refine va_put (D := (dC, dI)) (ci := 2) (v := .ref c1_11) (ty := .object "FieldLeaves$LeafList") (C := RX2) (T := TX2) (N := 9) hx hb hts iX2_ tyX2 tyX2_ok nmX2 hown hK hP hD hS k_15 hk_15 rfl 3 (by decide) (hts (.fieldLink RX2 22 "FieldLeaves" "spare" "LFieldLeaves$LeafList;") (by decide +kernel)) (fun _ h9 => h9) rfl (by decide +kernel) rfl rfl (Nat.le_of_ble_eq_true rfl) dX2_leaves_53 (fun H locs hP hD hS => ?_)
        have hP : va_P (dC, dI) vwCl (va_pl L (va_up f_14 h0 (.inr (2, [.ref q1_11, .int pc_11, .ref c2_11, .ref c1_11, .ref c3_11, .ref q5_11, .int fc_11, .ref q7_11, .int mc_11])))) H := by rw [← va_pls hD9 hh0.1 hk_15 _]; exact hP
        have hD : va_D A (va_pl L (va_up f_14 h0 (.inr (2, [.ref q1_11, .int pc_11, .ref c2_11, .ref c1_11, .ref c3_11, .ref q5_11, .int fc_11, .ref q7_11, .int mc_11])))) := by rw [← va_pls hD9 hh0.1 hk_15 _]; exact hD
        have hPI := hPI.put (e := .inr (2, [.ref q1_11, .int pc_11, .ref c2_11, .ref c1_11, .ref c3_11, .ref q5_11, .int fc_11, .ref q7_11, .int mc_11])) hh0 ⟨q1_11, pc_11, c2_11, c1_11, c3_11, q5_11, fc_11, q7_11, mc_11, rfl, fq1_11, fc2_11, fc1_11, fc3_11, fq5_11, ffc_11, fq7_11, fmc_11⟩
        have es_f_16 : va_up f_14 h0 (.inr (2, [.ref q1_11, .int pc_11, .ref c2_11, .ref c1_11, .ref c3_11, .ref q5_11, .int fc_11, .ref q7_11, .int mc_11])) h0 = .inr (2, [.ref q1_11, .int pc_11, .ref c2_11, .ref c1_11, .ref c3_11, .ref q5_11, .int fc_11, .ref q7_11, .int mc_11]) := va_up_self _ _ _
        generalize hg_f_16 : va_up f_14 h0 (.inr (2, [.ref q1_11, .int pc_11, .ref c2_11, .ref c1_11, .ref c3_11, .ref q5_11, .int fc_11, .ref q7_11, .int mc_11])) = f_16 at hP hD hPI es_f_16 
        refine lv_aload_n hx hb dX2_leaves_56 rfl (lv_at hl 2 rfl) ?_
        obtain ⟨k_17, hk_17⟩ := va_plg hh0.1 es_f_16
        refine va_get (D := (dC, dI)) (ci := 2) (v := .ref c2_11) (C := RX2) (T := TX2) (N := 9) hx hb hts iX2_ hown hK hP k_17 hk_17 rfl 2 (by decide) (hts (.fieldLink RX2 18 "FieldLeaves" "current" "LFieldLeaves$LeafList;") (by decide +kernel)) (fun _ h9 => h9) rfl dX2_leaves_57 ?_
        obtain ⟨n_18, d_18, v_18, z_18, e_18, fn_18, fd_18, fv_18, fz_18⟩ := hPI.a0 fc2_11
        obtain ⟨k_18, hk_18⟩ := va_plg fc2_11.1 e_18
        refine va_get (D := (dC, dI)) (ci := 0) (v := .int z_18) (C := RX0) (T := TX0) (N := 4) hx hb hts iX0_ hown hK hP k_18 hk_18 rfl 3 (by decide) (hts (.fieldLink RX2 128 "FieldLeaves$LeafList" "size" "I") (by decide +kernel)) (fun _ h9 => h9) rfl dX2_leaves_60 ?_
        exact W.iret (v := z_18) hx hb hr (fun t ht hW => ⟨⟨z_18, (), rfl, (by have h5 := hLS.1; have hne : c2_11 ≠ h0 := isr_ne fc2_11 hh0 (by decide); have e5 := e_18; rw [← hg_f_16, va_up_ne _ _ hne, ← hg_f_14, va_up_ne _ _ hne] at e5; rw [show c2_3 = c2_11 from (ob_c2 e_3).symm.trans (hTF.2.2.2.2.2.1.symm.trans (ob_c2 e_11))] at hLS; have h6 := hLS.1; rw [li_z e5] at h6; simp only [ks_lv, ob_c2 e_3, ob_c1 e_3, ob_sl e_3 e_4, eo_4, hls] <;> (repeat' split) <;> first | exact h6 | (exfalso; omega) | contradiction | (simp_all; done)), f_16, hPI, (by unfold ks_lvh; rw [if_pos (by omega)]; simp only [ob_sl e_3 e_4, eo_4, hls]; refine ⟨f_9, by rw [ob_c2 e_3]; exact hTF, by rw [ob_c2 e_3]; exact hLS, ?_⟩; rw [← hTF.2.2.2.2.2.1, ← hTF.2.2.2.2.1, ob_c2 e_11, ob_c1 e_11]; subst hg_f_14 hg_f_16; simp only [s_F_of e_11, s_F_of es_f_14, List.set_cons_succ, List.set_cons_zero]), by rw [ht]; exact hP, hD⟩, hS.F ht⟩) hS.2.2 dX2_leaves_63
      · have hls := Option.not_isSome_iff_eq_none.mp hp_10
        refine lv_if_ne (tgt := 38) hx hb dX2_leaves_32 (by decide) (fun c9 => absurd c9 (by decide)) (fun _ => ?_)
        refine lv_bipush (v := (-3)) hx hb dX2_leaves_35 (by decide) ?_
        exact W.iret (v := (-3)) hx hb hr (fun t ht hW => ⟨⟨(-3), (), rfl, (by simp only [ks_lv, ob_c2 e_3, ob_c1 e_3, ob_sl e_3 e_4, eo_4, hls] <;> (repeat' split) <;> first | rfl | (exfalso; omega) | contradiction | (simp_all; done)), f_9, hPI, (by simp only [ks_lvh, ob_c2 e_3, ob_c1 e_3, ob_sl e_3 e_4, eo_4, hls] <;> (repeat' split) <;> first | exact hTF | (exfalso; omega) | contradiction | (simp_all; done)), by rw [ht]; exact hP, hD⟩, hS.F ht⟩) hS.2.2 dX2_leaves_37
  · refine lv_if_ne (tgt := 9) hx hb dX2_leaves_4 (by decide) (fun c9 => absurd c9 (by decide)) (fun _ => ?_)
    refine lv_iconst (v := (-1)) hx hb dX2_leaves_7 (by decide) ?_
    exact W.iret (v := (-1)) hx hb hr (fun t ht hW => ⟨⟨(-1), (), rfl, (by simp only [ks_lv] <;> (repeat' split) <;> first | rfl | (exfalso; omega) | contradiction | (simp_all; done)), f, hPI, (by simp only [ks_lvh] <;> (repeat' split) <;> first | rfl | (exfalso; omega) | contradiction | (simp_all; done)), by rw [ht]; exact hP, hD⟩, hS.F ht⟩) hS.2.2 dX2_leaves_8
set_option maxRecDepth 20000 in
theorem in_u_X2_equal_X2 : ∀ w ∈ u_ws RX2 TX2 9, w ∈ wsX2_equal := by decide +kernel
set_option maxRecDepth 100000 in
set_option maxHeartbeats 4000000 in
theorem u_X2_equal (l : Launch) (dC : Nat → ClassId) (dI : Nat → Nat → Nat) (TT : Nat × Nat × Nat) (sz : Nat) (kT kI kJ : ClassId) (K : Nat → Nat) (L : List Nat) (f : Nat → va_E) (hPI : PI kT kI kJ K L f) (h0 : Nat) (hh0 : isr K L 2 h0) (p0 : Int32) (p1 : Int32) (ow : Nat → Nat) (hOW0 : OWN K L f ow) : Met l yX2_equal wsX2_equal ({ frames := 5, cells := 0, slots := 0, locals := 121 } : Room) (va_Pc [.ref h0, .int p0, .int p1] (pr dC dI (va_pl L f) (va_pl L f) [(kT, .object RX1), (kI, .int), (kJ, .long)] sz TT)) (va_Qi (fun (r : Int32) (u : Unit) => True) (fun (_ : Unit) t => ∃ f2 : Nat → va_E, PI kT kI kJ K L f2 ∧ (∃ f1, TF K L ow (cP (f h0) 3) h0 f f1 ∧ TF K L ow (cP (f h0) 4) h0 f1 f2) ∧ va_P (dC, dI) vwCl (va_pl L f2) t.heap ∧ va_D (va_A (va_pl L f) sz) (va_pl L f2)) (va_A (va_pl L f) sz)) 0 0 (va_A (va_pl L f) sz) := by
  refine Met.ofW (cc := cX2_equal) (maxL := 5) (ret := (some .int)) (by decide) rfl ?_
  intro p e s m args below meth c s₁ B hml hv
  obtain ⟨rfl, hsz, hP, hK, hD0, hst⟩ := hv
  have hx := B.exec
  have hb := B.bytes
  have hr := B.returns
  have hts := atoms_spec (ws := wsX2_equal) B.pre
  have hown : s.vm.findClass RX2 = some m.cls := findClass_of_methodNamed B.named
  have hlocks := B.notSynchronized
  have iX2_ := in_u_X2_equal_X2
  subst hsz
  have hD := hD0.self (sz := s.heap.size)
  generalize hAe : va_A (va_pl L f) s.heap.size = A at hD hst ⊢
  have hA : ∀ q : Nat, s.heap.size ≤ q → A q := fun q h => by rw [← hAe]; exact Or.inr h
  have hS : va_S A s.heap s.heap [] := va_S.rf
  have hl := lv_entry ([.ref h0, .int p0, .int p1]) (n := 5) (Nat.le_of_ble_eq_true rfl)
  rw [lg_entry_eq]
  generalize (lg_sl ([.ref h0, .int p0, .int p1]) ++ List.replicate (5 - (lg_sl ([.ref h0, .int p0, .int p1])).length) Slot.unset).toArray = ls at hl ⊢
  have hl : lv_has ls 5 [(0, .ref h0), (1, .int p0), (2, .int p1)] := hl
  have km3_ : Int32.toInt (-3) = -3 := by decide
  have km1_ : Int32.toInt (-1) = -1 := by decide
  have k0_ : Int32.toInt 0 = 0 := by decide
  have k1_ : Int32.toInt 1 = 1 := by decide
  refine lv_iload_n hx hb dX2_equal_0 rfl (lv_at hl 1 rfl) ?_
  refine va_calli (va_runS (As := [.int p0]) (rest := []) ⟨hx, hb, hml, hown, hts⟩ (c_X2_isSlot l dC dI TT s.heap.size p0) (va_cwS 1 hts gX2_equal_X2_isSlot rfl rfl rfl (by decide +kernel) ⟨Nat.le_of_ble_eq_true rfl, Nat.le_of_ble_eq_true rfl⟩) (pr_S (ws := []) (wA := []) (tys := []) vp_nil (hK.sub [] rfl) vd_nil hst hS (ro_free hS hA)) rfl rfl hl.1 rfl (lv_room (Nat.le_of_ble_eq_true rfl)) dX2_equal_1 ⟨Nat.le_of_ble_eq_true rfl, Nat.le_of_ble_eq_true rfl⟩) hS (fun q _ h => (ro_free hS hA) q h) (ro_free hS hA) (fun r_1 u t H1 locs ht hvm hw hB hz1 hk1 hS => ?_)
  have hP := ro_keep hP hk1
  generalize H1 = H at hP hS ⊢
  rcases hw with ⟨rfl, hp_2⟩ | ⟨rfl, hp_2⟩
  · refine lv_if_eq (tgt := 14) hx hb dX2_equal_4 (by decide) (fun c9 => absurd c9 (by decide)) (fun _ => ?_)
    refine lv_iload_n hx hb dX2_equal_7 rfl (lv_at hl 2 rfl) ?_
    refine va_calli (va_runS (As := [.int p1]) (rest := []) ⟨hx, hb, hml, hown, hts⟩ (c_X2_isSlot l dC dI TT H.size p1) (va_cwS 1 hts gX2_equal_X2_isSlot rfl rfl rfl (by decide +kernel) ⟨Nat.le_of_ble_eq_true rfl, Nat.le_of_ble_eq_true rfl⟩) (pr_S (ws := []) (wA := []) (tys := []) vp_nil (hK.sub [] rfl) vd_nil hst hS (ro_free hS hA)) rfl rfl hl.1 rfl (lv_room (Nat.le_of_ble_eq_true rfl)) dX2_equal_8 ⟨Nat.le_of_ble_eq_true rfl, Nat.le_of_ble_eq_true rfl⟩) hS (fun q _ h => (ro_free hS hA) q h) (ro_free hS hA) (fun r_3 u t H1 locs ht hvm hw hB hz1 hk1 hS => ?_)
    have hP := ro_keep hP hk1
    generalize H1 = H at hP hS ⊢
    rcases hw with ⟨rfl, hp_4⟩ | ⟨rfl, hp_4⟩
    · refine lv_if_ne (tgt := 16) hx hb dX2_equal_11 (by decide) (fun _ => ?_) (fun c9 => absurd c9 (by decide))
      refine lv_aload_n hx hb dX2_equal_16 rfl (lv_at hl 0 rfl) ?_
      obtain ⟨q1_5, pc_5, c1_5, c2_5, c3_5, q5_5, fc_5, q7_5, mc_5, e_5, fq1_5, fc1_5, fc2_5, fc3_5, fq5_5, ffc_5, fq7_5, fmc_5⟩ := hPI.a2 hh0
      obtain ⟨k_5, hk_5⟩ := va_plg hh0.1 e_5
      refine va_get (D := (dC, dI)) (ci := 2) (v := .ref q1_5) (C := RX2) (T := TX2) (N := 9) hx hb hts iX2_ hown hK hP k_5 hk_5 rfl 0 (by decide) (hts (.fieldLink RX2 11 "FieldLeaves" "slots" "[LFieldLeaves$Thing;") (by decide +kernel)) (fun _ h9 => h9) rfl dX2_equal_17 ?_
      refine lv_iload_n hx hb dX2_equal_20 rfl (lv_at hl 1 rfl) ?_
      obtain ⟨g_6, e_6, fg_6⟩ := hPI.a5 fq1_5
      obtain ⟨k_6, hk_6⟩ := va_plg fq1_5.1 e_6
      have h_6 : vp_in p0 12 := (vp_in_iff.mpr (by constructor <;> omega))
      refine va_aldq hx hb hK hP k_6 0 hk_6 rfl h_6 dX2_equal_21 ?_
      have fo_6 := fg_6 _ (vp_lt h_6)
      generalize eo_6 : g_6 (Int32.toNatClampNeg p0) = o_6 at fo_6 ⊢
      rcases o_6 with _ | y_7
      · refine W.eq (g2 := F0 m 22 ls [.null]) rfl ?_
        refine lv_astore_nN (lv' := [(3, .null), (0, .ref h0), (1, .int p0), (2, .int p1)]) hx hb dX2_equal_22 rfl hl (by decide) rfl (fun ls hl => ?_)
        refine lv_aload_n hx hb dX2_equal_23 rfl (lv_at hl 1 rfl) ?_
        obtain ⟨k_8, hk_8⟩ := va_plg hh0.1 e_5
        refine va_get (D := (dC, dI)) (ci := 2) (v := .ref q1_5) (C := RX2) (T := TX2) (N := 9) hx hb hts iX2_ hown hK hP k_8 hk_8 rfl 0 (by decide) (hts (.fieldLink RX2 11 "FieldLeaves" "slots" "[LFieldLeaves$Thing;") (by decide +kernel)) (fun _ h9 => h9) rfl dX2_equal_24 ?_
        refine lv_iload_n hx hb dX2_equal_27 rfl (lv_at hl 3 rfl) ?_
        obtain ⟨k_9, hk_9⟩ := va_plg fq1_5.1 e_6
        have h_9 : vp_in p1 12 := (vp_in_iff.mpr (by constructor <;> omega))
        refine va_aldq hx hb hK hP k_9 0 hk_9 rfl h_9 dX2_equal_28 ?_
        have fo_9 := fg_6 _ (vp_lt h_9)
        generalize eo_9 : g_6 (Int32.toNatClampNeg p1) = o_9 at fo_9 ⊢
        rcases o_9 with _ | y_10
        · refine W.eq (g2 := F0 m 29 ls [.null]) rfl ?_
          refine lv_astoreN (lv' := [(4, .null), (3, .null), (0, .ref h0), (1, .int p0), (2, .int p1)]) hx hb dX2_equal_29 hl (by decide) rfl (fun ls hl => ?_)
          refine lv_aload_nN hx hb dX2_equal_31 rfl (lv_at hl 1 rfl) ?_
          refine lv_ifnullN (tgt := 47) hx hb dX2_equal_32 (by decide) ?_
          refine lv_aloadN hx hb dX2_equal_47 (lv_at hl 0 rfl) ?_
          refine lv_ifnullN (tgt := 68) hx hb dX2_equal_49 (by decide) ?_
          refine lv_aload_nN hx hb dX2_equal_68 rfl (lv_at hl 1 rfl) ?_
          refine lv_ifnullN (tgt := 77) hx hb dX2_equal_69 (by decide) ?_
          refine lv_aload_nN hx hb dX2_equal_77 rfl (lv_at hl 1 rfl) ?_
          refine lv_aloadN hx hb dX2_equal_78 (lv_at hl 0 rfl) ?_
          refine W.eq (g2 := F0 m 80 ls (va_rf none :: va_rf none :: [])) rfl ?_
          refine lv_acmp_ne (tgt := 87) hx hb dX2_equal_80 (by decide) (fun ca_11 => ?_) (fun ca_11 => ?_)
          · refine lv_iconst (v := 0) hx hb dX2_equal_87 (by decide) ?_
            exact W.iret (v := 0) hx hb hr (fun t ht hW => ⟨⟨0, (), rfl, trivial, f, hPI, ⟨f, TF.rf, TF.rf⟩, by rw [ht]; exact hP, hD⟩, hS.F ht⟩) hS.2.2 dX2_equal_88
          · refine lv_iconst (v := 1) hx hb dX2_equal_83 (by decide) ?_
            refine lv_goto (tgt := 88) hx hb dX2_equal_84 (by decide) ?_
            exact W.iret (v := 1) hx hb hr (fun t ht hW => ⟨⟨1, (), rfl, trivial, f, hPI, ⟨f, TF.rf, TF.rf⟩, by rw [ht]; exact hP, hD⟩, hS.F ht⟩) hS.2.2 dX2_equal_88
        · have fy_10 := fo_9 y_10 rfl
          refine W.eq (g2 := F0 m 29 ls [.ref y_10]) rfl ?_
          refine lv_astore (lv' := [(4, .ref y_10), (3, .null), (0, .ref h0), (1, .int p0), (2, .int p1)]) hx hb dX2_equal_29 hl (by decide) rfl (fun ls hl => ?_)
          refine lv_aload_nN hx hb dX2_equal_31 rfl (lv_at hl 1 rfl) ?_
          refine lv_ifnullN (tgt := 47) hx hb dX2_equal_32 (by decide) ?_
          refine lv_aload hx hb dX2_equal_47 (lv_at hl 0 rfl) ?_
          refine lv_ifnull hx hb dX2_equal_49 ?_
          refine lv_aload_n hx hb dX2_equal_52 rfl (lv_at hl 2 rfl) ?_
          refine lv_aload hx hb dX2_equal_53 (lv_at hl 0 rfl) ?_
          refine lv_aload_n hx hb dX2_equal_55 rfl (lv_at hl 2 rfl) ?_
          obtain ⟨k_12, hk_12⟩ := va_plg hh0.1 e_5
          refine va_get (D := (dC, dI)) (ci := 2) (v := .ref c3_5) (C := RX2) (T := TX2) (N := 9) hx hb hts iX2_ hown hK hP k_12 hk_12 rfl 4 (by decide) (hts (.fieldLink RX2 25 "FieldLeaves" "second" "LFieldLeaves$LeafList;") (by decide +kernel)) (fun _ h9 => h9) rfl dX2_equal_56 ?_
          have hFc := pl_free hD hS hA
          obtain ⟨k_13, hk_13⟩ := va_plg hh0.1 e_5
          refine va_calli (va_runV (b := h0) (As := [.ref y_10, .ref c3_5]) (rest := []) ⟨hx, hb, hml, hown, hts⟩ (u_X2_tell l dC dI TT H.size kT kI kJ K L f hPI h0 hh0 y_10 fy_10 c3_5 fc3_5 ow hOW0) (cwV 2 hts gX2_equal_X2_tell rfl rfl rfl (by decide +kernel) ⟨Nat.le_of_ble_eq_true rfl, Nat.le_of_ble_eq_true rfl⟩) ⟨pr_blind, va_recv hK hP (ci := 2) rfl hk_13, (pr_S (ws := va_pl L f) (wA := va_pl L f) (tys := [(kT, .object RX1), (kI, .int), (kJ, .long)]) hP hK (hD.weaken (fun _ _ _ _ => trivial)) hst hS hFc).2⟩ rfl rfl hl.1 rfl (lv_room (Nat.le_of_ble_eq_true rfl)) dX2_equal_59 ⟨Nat.le_of_ble_eq_true rfl, Nat.le_of_ble_eq_true rfl⟩) hS (fun q _ h => hFc q h) hFc (fun r_14 u t H1 locs ht hvm hw hB hz1 hk1 hS => ?_)
          obtain ⟨f_15, hPI, hrel, hP, hD9⟩ := hB
          rw [ht] at hP
          have hD := hD9.weaken (fun _ q _ h => hFc q.1 h)
          generalize H1 = H at hP hS ⊢
          obtain ⟨hTb, hLSf⟩ := hrel
          rcases hw with ⟨rfl, hp_16⟩ | ⟨rfl, hp_16⟩
          · refine lv_if_ne (tgt := 68) hx hb dX2_equal_62 (by decide) (fun _ => ?_) (fun c9 => absurd c9 (by decide))
            refine lv_aload_nN hx hb dX2_equal_68 rfl (lv_at hl 1 rfl) ?_
            refine lv_ifnullN (tgt := 77) hx hb dX2_equal_69 (by decide) ?_
            refine lv_aload_nN hx hb dX2_equal_77 rfl (lv_at hl 1 rfl) ?_
            refine lv_aload hx hb dX2_equal_78 (lv_at hl 0 rfl) ?_
            refine W.eq (g2 := F0 m 80 ls (va_rf (some y_10) :: va_rf none :: [])) rfl ?_
            refine lv_acmp_ne (tgt := 87) hx hb dX2_equal_80 (by decide) (fun ca_17 => ?_) (fun ca_17 => ?_)
            · refine lv_iconst (v := 0) hx hb dX2_equal_87 (by decide) ?_
              exact W.iret (v := 0) hx hb hr (fun t ht hW => ⟨⟨0, (), rfl, trivial, f_15, hPI, ⟨f, TF.rf, (by rw [ob_c3 e_5]; exact hTb)⟩, by rw [ht]; exact hP, hD⟩, hS.F ht⟩) hS.2.2 dX2_equal_88
            · refine lv_iconst (v := 1) hx hb dX2_equal_83 (by decide) ?_
              refine lv_goto (tgt := 88) hx hb dX2_equal_84 (by decide) ?_
              exact W.iret (v := 1) hx hb hr (fun t ht hW => ⟨⟨1, (), rfl, trivial, f_15, hPI, ⟨f, TF.rf, (by rw [ob_c3 e_5]; exact hTb)⟩, by rw [ht]; exact hP, hD⟩, hS.F ht⟩) hS.2.2 dX2_equal_88
          · refine lv_if_ne (tgt := 68) hx hb dX2_equal_62 (by decide) (fun c9 => absurd c9 (by decide)) (fun _ => ?_)
            refine lv_bipush (v := (-3)) hx hb dX2_equal_65 (by decide) ?_
            exact W.iret (v := (-3)) hx hb hr (fun t ht hW => ⟨⟨(-3), (), rfl, trivial, f_15, hPI, ⟨f, TF.rf, (by rw [ob_c3 e_5]; exact hTb)⟩, by rw [ht]; exact hP, hD⟩, hS.F ht⟩) hS.2.2 dX2_equal_67
      · have fy_7 := fo_6 y_7 rfl
        refine W.eq (g2 := F0 m 22 ls [.ref y_7]) rfl ?_
        refine lv_astore_n (lv' := [(3, .ref y_7), (0, .ref h0), (1, .int p0), (2, .int p1)]) hx hb dX2_equal_22 rfl hl (by decide) rfl (fun ls hl => ?_)
        refine lv_aload_n hx hb dX2_equal_23 rfl (lv_at hl 1 rfl) ?_
        obtain ⟨k_18, hk_18⟩ := va_plg hh0.1 e_5
        refine va_get (D := (dC, dI)) (ci := 2) (v := .ref q1_5) (C := RX2) (T := TX2) (N := 9) hx hb hts iX2_ hown hK hP k_18 hk_18 rfl 0 (by decide) (hts (.fieldLink RX2 11 "FieldLeaves" "slots" "[LFieldLeaves$Thing;") (by decide +kernel)) (fun _ h9 => h9) rfl dX2_equal_24 ?_
        refine lv_iload_n hx hb dX2_equal_27 rfl (lv_at hl 3 rfl) ?_
        obtain ⟨k_19, hk_19⟩ := va_plg fq1_5.1 e_6
        have h_19 : vp_in p1 12 := (vp_in_iff.mpr (by constructor <;> omega))
        refine va_aldq hx hb hK hP k_19 0 hk_19 rfl h_19 dX2_equal_28 ?_
        have fo_19 := fg_6 _ (vp_lt h_19)
        generalize eo_19 : g_6 (Int32.toNatClampNeg p1) = o_19 at fo_19 ⊢
        rcases o_19 with _ | y_20
        · refine W.eq (g2 := F0 m 29 ls [.null]) rfl ?_
          refine lv_astoreN (lv' := [(4, .null), (3, .ref y_7), (0, .ref h0), (1, .int p0), (2, .int p1)]) hx hb dX2_equal_29 hl (by decide) rfl (fun ls hl => ?_)
          refine lv_aload_n hx hb dX2_equal_31 rfl (lv_at hl 1 rfl) ?_
          refine lv_ifnull hx hb dX2_equal_32 ?_
          refine lv_aload_n hx hb dX2_equal_35 rfl (lv_at hl 2 rfl) ?_
          refine lv_aload_n hx hb dX2_equal_36 rfl (lv_at hl 1 rfl) ?_
          refine lv_aload_n hx hb dX2_equal_37 rfl (lv_at hl 2 rfl) ?_
          obtain ⟨k_21, hk_21⟩ := va_plg hh0.1 e_5
          refine va_get (D := (dC, dI)) (ci := 2) (v := .ref c2_5) (C := RX2) (T := TX2) (N := 9) hx hb hts iX2_ hown hK hP k_21 hk_21 rfl 3 (by decide) (hts (.fieldLink RX2 22 "FieldLeaves" "spare" "LFieldLeaves$LeafList;") (by decide +kernel)) (fun _ h9 => h9) rfl dX2_equal_38 ?_
          have hFc := pl_free hD hS hA
          obtain ⟨k_22, hk_22⟩ := va_plg hh0.1 e_5
          refine va_calli (va_runV (b := h0) (As := [.ref y_7, .ref c2_5]) (rest := []) ⟨hx, hb, hml, hown, hts⟩ (u_X2_tell l dC dI TT H.size kT kI kJ K L f hPI h0 hh0 y_7 fy_7 c2_5 fc2_5 ow hOW0) (cwV 2 hts gX2_equal_X2_tell rfl rfl rfl (by decide +kernel) ⟨Nat.le_of_ble_eq_true rfl, Nat.le_of_ble_eq_true rfl⟩) ⟨pr_blind, va_recv hK hP (ci := 2) rfl hk_22, (pr_S (ws := va_pl L f) (wA := va_pl L f) (tys := [(kT, .object RX1), (kI, .int), (kJ, .long)]) hP hK (hD.weaken (fun _ _ _ _ => trivial)) hst hS hFc).2⟩ rfl rfl hl.1 rfl (lv_room (Nat.le_of_ble_eq_true rfl)) dX2_equal_41 ⟨Nat.le_of_ble_eq_true rfl, Nat.le_of_ble_eq_true rfl⟩) hS (fun q _ h => hFc q h) hFc (fun r_23 u t H1 locs ht hvm hw hB hz1 hk1 hS => ?_)
          obtain ⟨f_24, hPI, hrel, hP, hD9⟩ := hB
          rw [ht] at hP
          have hD := hD9.weaken (fun _ q _ h => hFc q.1 h)
          generalize H1 = H at hP hS ⊢
          obtain ⟨hTa, hLSf⟩ := hrel
          rcases hw with ⟨rfl, hp_25⟩ | ⟨rfl, hp_25⟩
          · refine lv_if_eq (tgt := 65) hx hb dX2_equal_44 (by decide) (fun c9 => absurd c9 (by decide)) (fun _ => ?_)
            refine lv_aloadN hx hb dX2_equal_47 (lv_at hl 0 rfl) ?_
            refine lv_ifnullN (tgt := 68) hx hb dX2_equal_49 (by decide) ?_
            refine lv_aload_n hx hb dX2_equal_68 rfl (lv_at hl 1 rfl) ?_
            refine lv_ifnull hx hb dX2_equal_69 ?_
            refine lv_aloadN hx hb dX2_equal_72 (lv_at hl 0 rfl) ?_
            refine lv_ifnonnullN hx hb dX2_equal_74 ?_
            refine lv_aload_n hx hb dX2_equal_77 rfl (lv_at hl 1 rfl) ?_
            refine lv_aloadN hx hb dX2_equal_78 (lv_at hl 0 rfl) ?_
            refine W.eq (g2 := F0 m 80 ls (va_rf none :: va_rf (some y_7) :: [])) rfl ?_
            refine lv_acmp_ne (tgt := 87) hx hb dX2_equal_80 (by decide) (fun ca_26 => ?_) (fun ca_26 => ?_)
            · refine lv_iconst (v := 0) hx hb dX2_equal_87 (by decide) ?_
              exact W.iret (v := 0) hx hb hr (fun t ht hW => ⟨⟨0, (), rfl, trivial, f_24, hPI, ⟨f_24, (by rw [ob_c2 e_5]; exact hTa), TF.rf⟩, by rw [ht]; exact hP, hD⟩, hS.F ht⟩) hS.2.2 dX2_equal_88
            · refine lv_iconst (v := 1) hx hb dX2_equal_83 (by decide) ?_
              refine lv_goto (tgt := 88) hx hb dX2_equal_84 (by decide) ?_
              exact W.iret (v := 1) hx hb hr (fun t ht hW => ⟨⟨1, (), rfl, trivial, f_24, hPI, ⟨f_24, (by rw [ob_c2 e_5]; exact hTa), TF.rf⟩, by rw [ht]; exact hP, hD⟩, hS.F ht⟩) hS.2.2 dX2_equal_88
          · refine lv_if_eq (tgt := 65) hx hb dX2_equal_44 (by decide) (fun _ => ?_) (fun c9 => absurd c9 (by decide))
            refine lv_bipush (v := (-3)) hx hb dX2_equal_65 (by decide) ?_
            exact W.iret (v := (-3)) hx hb hr (fun t ht hW => ⟨⟨(-3), (), rfl, trivial, f_24, hPI, ⟨f_24, (by rw [ob_c2 e_5]; exact hTa), TF.rf⟩, by rw [ht]; exact hP, hD⟩, hS.F ht⟩) hS.2.2 dX2_equal_67
        · have fy_20 := fo_19 y_20 rfl
          refine W.eq (g2 := F0 m 29 ls [.ref y_20]) rfl ?_
          refine lv_astore (lv' := [(4, .ref y_20), (3, .ref y_7), (0, .ref h0), (1, .int p0), (2, .int p1)]) hx hb dX2_equal_29 hl (by decide) rfl (fun ls hl => ?_)
          refine lv_aload_n hx hb dX2_equal_31 rfl (lv_at hl 1 rfl) ?_
          refine lv_ifnull hx hb dX2_equal_32 ?_
          refine lv_aload_n hx hb dX2_equal_35 rfl (lv_at hl 2 rfl) ?_
          refine lv_aload_n hx hb dX2_equal_36 rfl (lv_at hl 1 rfl) ?_
          refine lv_aload_n hx hb dX2_equal_37 rfl (lv_at hl 2 rfl) ?_
          obtain ⟨k_27, hk_27⟩ := va_plg hh0.1 e_5
          refine va_get (D := (dC, dI)) (ci := 2) (v := .ref c2_5) (C := RX2) (T := TX2) (N := 9) hx hb hts iX2_ hown hK hP k_27 hk_27 rfl 3 (by decide) (hts (.fieldLink RX2 22 "FieldLeaves" "spare" "LFieldLeaves$LeafList;") (by decide +kernel)) (fun _ h9 => h9) rfl dX2_equal_38 ?_
          have hFc := pl_free hD hS hA
          obtain ⟨k_28, hk_28⟩ := va_plg hh0.1 e_5
          refine va_calli (va_runV (b := h0) (As := [.ref y_7, .ref c2_5]) (rest := []) ⟨hx, hb, hml, hown, hts⟩ (u_X2_tell l dC dI TT H.size kT kI kJ K L f hPI h0 hh0 y_7 fy_7 c2_5 fc2_5 ow hOW0) (cwV 2 hts gX2_equal_X2_tell rfl rfl rfl (by decide +kernel) ⟨Nat.le_of_ble_eq_true rfl, Nat.le_of_ble_eq_true rfl⟩) ⟨pr_blind, va_recv hK hP (ci := 2) rfl hk_28, (pr_S (ws := va_pl L f) (wA := va_pl L f) (tys := [(kT, .object RX1), (kI, .int), (kJ, .long)]) hP hK (hD.weaken (fun _ _ _ _ => trivial)) hst hS hFc).2⟩ rfl rfl hl.1 rfl (lv_room (Nat.le_of_ble_eq_true rfl)) dX2_equal_41 ⟨Nat.le_of_ble_eq_true rfl, Nat.le_of_ble_eq_true rfl⟩) hS (fun q _ h => hFc q h) hFc (fun r_29 u t H1 locs ht hvm hw hB hz1 hk1 hS => ?_)
          obtain ⟨f_30, hPI, hrel, hP, hD9⟩ := hB
          rw [ht] at hP
          have hD := hD9.weaken (fun _ q _ h => hFc q.1 h)
          generalize H1 = H at hP hS ⊢
          obtain ⟨hTa, hLSf⟩ := hrel
          rcases hw with ⟨rfl, hp_31⟩ | ⟨rfl, hp_31⟩
          · refine lv_if_eq (tgt := 65) hx hb dX2_equal_44 (by decide) (fun c9 => absurd c9 (by decide)) (fun _ => ?_)
            refine lv_aload hx hb dX2_equal_47 (lv_at hl 0 rfl) ?_
            refine lv_ifnull hx hb dX2_equal_49 ?_
            refine lv_aload_n hx hb dX2_equal_52 rfl (lv_at hl 2 rfl) ?_
            refine lv_aload hx hb dX2_equal_53 (lv_at hl 0 rfl) ?_
            refine lv_aload_n hx hb dX2_equal_55 rfl (lv_at hl 2 rfl) ?_
            obtain ⟨q1_32, pc_32, c1_32, c2_32, c3_32, q5_32, fc_32, q7_32, mc_32, e_32, fq1_32, fc1_32, fc2_32, fc3_32, fq5_32, ffc_32, fq7_32, fmc_32⟩ := hPI.a2 hh0
            obtain ⟨k_32, hk_32⟩ := va_plg hh0.1 e_32
            refine va_get (D := (dC, dI)) (ci := 2) (v := .ref c3_32) (C := RX2) (T := TX2) (N := 9) hx hb hts iX2_ hown hK hP k_32 hk_32 rfl 4 (by decide) (hts (.fieldLink RX2 25 "FieldLeaves" "second" "LFieldLeaves$LeafList;") (by decide +kernel)) (fun _ h9 => h9) rfl dX2_equal_56 ?_
            have hFc := pl_free hD hS hA
            obtain ⟨k_33, hk_33⟩ := va_plg hh0.1 e_32
            refine va_calli (va_runV (b := h0) (As := [.ref y_20, .ref c3_32]) (rest := []) ⟨hx, hb, hml, hown, hts⟩ (u_X2_tell l dC dI TT H.size kT kI kJ K L f_30 hPI h0 hh0 y_20 fy_20 c3_32 fc3_32 ow (hTa.own fc2_5 hOW0)) (cwV 2 hts gX2_equal_X2_tell rfl rfl rfl (by decide +kernel) ⟨Nat.le_of_ble_eq_true rfl, Nat.le_of_ble_eq_true rfl⟩) ⟨pr_blind, va_recv hK hP (ci := 2) rfl hk_33, (pr_S (ws := va_pl L f_30) (wA := va_pl L f_30) (tys := [(kT, .object RX1), (kI, .int), (kJ, .long)]) hP hK (hD.weaken (fun _ _ _ _ => trivial)) hst hS hFc).2⟩ rfl rfl hl.1 rfl (lv_room (Nat.le_of_ble_eq_true rfl)) dX2_equal_59 ⟨Nat.le_of_ble_eq_true rfl, Nat.le_of_ble_eq_true rfl⟩) hS (fun q _ h => hFc q h) hFc (fun r_34 u t H1 locs ht hvm hw hB hz1 hk1 hS => ?_)
            obtain ⟨f_35, hPI, hrel, hP, hD9⟩ := hB
            rw [ht] at hP
            have hD := hD9.weaken (fun _ q _ h => hFc q.1 h)
            generalize H1 = H at hP hS ⊢
            obtain ⟨hTb, hLSf⟩ := hrel
            rcases hw with ⟨rfl, hp_36⟩ | ⟨rfl, hp_36⟩
            · refine lv_if_ne (tgt := 68) hx hb dX2_equal_62 (by decide) (fun _ => ?_) (fun c9 => absurd c9 (by decide))
              refine lv_aload_n hx hb dX2_equal_68 rfl (lv_at hl 1 rfl) ?_
              refine lv_ifnull hx hb dX2_equal_69 ?_
              refine lv_aload hx hb dX2_equal_72 (lv_at hl 0 rfl) ?_
              refine lv_ifnonnull (tgt := 89) hx hb dX2_equal_74 (by decide) ?_
              refine lv_aload_n hx hb dX2_equal_89 rfl (lv_at hl 2 rfl) ?_
              obtain ⟨q1_37, pc_37, c1_37, c2_37, c3_37, q5_37, fc_37, q7_37, mc_37, e_37, fq1_37, fc1_37, fc2_37, fc3_37, fq5_37, ffc_37, fq7_37, fmc_37⟩ := hPI.a2 hh0
              obtain ⟨k_37, hk_37⟩ := va_plg hh0.1 e_37
              refine va_get (D := (dC, dI)) (ci := 2) (v := .ref c2_37) (C := RX2) (T := TX2) (N := 9) hx hb hts iX2_ hown hK hP k_37 hk_37 rfl 3 (by decide) (hts (.fieldLink RX2 22 "FieldLeaves" "spare" "LFieldLeaves$LeafList;") (by decide +kernel)) (fun _ h9 => h9) rfl dX2_equal_90 ?_
              refine lv_aload_n hx hb dX2_equal_93 rfl (lv_at hl 2 rfl) ?_
              obtain ⟨k_38, hk_38⟩ := va_plg hh0.1 e_37
              refine va_get (D := (dC, dI)) (ci := 2) (v := .ref c3_37) (C := RX2) (T := TX2) (N := 9) hx hb hts iX2_ hown hK hP k_38 hk_38 rfl 4 (by decide) (hts (.fieldLink RX2 25 "FieldLeaves" "second" "LFieldLeaves$LeafList;") (by decide +kernel)) (fun _ h9 => h9) rfl dX2_equal_94 ?_
              obtain ⟨n_39, d_39, v_39, z_39, e_39, fn_39, fd_39, fv_39, fz_39⟩ := hPI.a0 fc2_37
              obtain ⟨k_39, hk_39⟩ := va_plg fc2_37.1 e_39
              refine va_calli (va_runV (b := c2_37) (As := [.ref c3_37]) (rest := []) ⟨hx, hb, hml, hown, hts⟩ (t_X0_sameAs l dC dI TT H.size kT kI kJ K L f_35 hPI c2_37 fc2_37 c3_37 fc3_37) (cwV 1 hts gX2_equal_X0_sameAs rfl rfl rfl (by decide +kernel) ⟨Nat.le_of_ble_eq_true rfl, Nat.le_of_ble_eq_true rfl⟩) ⟨pr_blind, va_recv hK hP (ci := 0) rfl hk_39, (pr_S (ws := va_pl L f_35) (wA := []) (tys := [(kT, .object RX1), (kI, .int), (kJ, .long)]) hP hK vd_nil hst hS (ro_free hS hA)).2⟩ rfl rfl hl.1 rfl (lv_room (Nat.le_of_ble_eq_true rfl)) dX2_equal_97 ⟨Nat.le_of_ble_eq_true rfl, Nat.le_of_ble_eq_true rfl⟩) hS (fun q _ h => (ro_free hS hA) q h) (ro_free hS hA) (fun r_40 u t H1 locs ht hvm hw hB hz1 hk1 hS => ?_)
              have hP := ro_keep hP hk1
              generalize H1 = H at hP hS ⊢
              rcases hw with rfl | rfl
              · refine lv_if_eq (tgt := 107) hx hb dX2_equal_100 (by decide) (fun c9 => absurd c9 (by decide)) (fun _ => ?_)
                refine lv_iconst (v := 1) hx hb dX2_equal_103 (by decide) ?_
                refine lv_goto (tgt := 108) hx hb dX2_equal_104 (by decide) ?_
                exact W.iret (v := 1) hx hb hr (fun t ht hW => ⟨⟨1, (), rfl, trivial, f_35, hPI, ⟨f_30, (by rw [ob_c2 e_5]; exact hTa), (by rw [← hTa.2.2.2.2.2.2.1, ob_c3 e_32]; exact hTb)⟩, by rw [ht]; exact hP, hD⟩, hS.F ht⟩) hS.2.2 dX2_equal_108
              · refine lv_if_eq (tgt := 107) hx hb dX2_equal_100 (by decide) (fun _ => ?_) (fun c9 => absurd c9 (by decide))
                refine lv_iconst (v := 0) hx hb dX2_equal_107 (by decide) ?_
                exact W.iret (v := 0) hx hb hr (fun t ht hW => ⟨⟨0, (), rfl, trivial, f_35, hPI, ⟨f_30, (by rw [ob_c2 e_5]; exact hTa), (by rw [← hTa.2.2.2.2.2.2.1, ob_c3 e_32]; exact hTb)⟩, by rw [ht]; exact hP, hD⟩, hS.F ht⟩) hS.2.2 dX2_equal_108
            · refine lv_if_ne (tgt := 68) hx hb dX2_equal_62 (by decide) (fun c9 => absurd c9 (by decide)) (fun _ => ?_)
              refine lv_bipush (v := (-3)) hx hb dX2_equal_65 (by decide) ?_
              exact W.iret (v := (-3)) hx hb hr (fun t ht hW => ⟨⟨(-3), (), rfl, trivial, f_35, hPI, ⟨f_30, (by rw [ob_c2 e_5]; exact hTa), (by rw [← hTa.2.2.2.2.2.2.1, ob_c3 e_32]; exact hTb)⟩, by rw [ht]; exact hP, hD⟩, hS.F ht⟩) hS.2.2 dX2_equal_67
          · refine lv_if_eq (tgt := 65) hx hb dX2_equal_44 (by decide) (fun _ => ?_) (fun c9 => absurd c9 (by decide))
            refine lv_bipush (v := (-3)) hx hb dX2_equal_65 (by decide) ?_
            exact W.iret (v := (-3)) hx hb hr (fun t ht hW => ⟨⟨(-3), (), rfl, trivial, f_30, hPI, ⟨f_30, (by rw [ob_c2 e_5]; exact hTa), TF.rf⟩, by rw [ht]; exact hP, hD⟩, hS.F ht⟩) hS.2.2 dX2_equal_67
    · refine lv_if_ne (tgt := 16) hx hb dX2_equal_11 (by decide) (fun c9 => absurd c9 (by decide)) (fun _ => ?_)
      refine lv_iconst (v := (-1)) hx hb dX2_equal_14 (by decide) ?_
      exact W.iret (v := (-1)) hx hb hr (fun t ht hW => ⟨⟨(-1), (), rfl, trivial, f, hPI, ⟨f, TF.rf, TF.rf⟩, by rw [ht]; exact hP, hD⟩, hS.F ht⟩) hS.2.2 dX2_equal_15
  · refine lv_if_eq (tgt := 14) hx hb dX2_equal_4 (by decide) (fun _ => ?_) (fun c9 => absurd c9 (by decide))
    refine lv_iconst (v := (-1)) hx hb dX2_equal_14 (by decide) ?_
    exact W.iret (v := (-1)) hx hb hr (fun t ht hW => ⟨⟨(-1), (), rfl, trivial, f, hPI, ⟨f, TF.rf, TF.rf⟩, by rw [ht]; exact hP, hD⟩, hS.F ht⟩) hS.2.2 dX2_equal_15

