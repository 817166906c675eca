-- WHAT FILLING A FIELD DOES
def ks_ma (f : Nat → va_E) (h : Nat) (v : Int64) : Option Nat := if 0 ≤ v.toInt ∧ v.toInt < (cI (f h) 8).toInt then aR (f (cP (f h) 7)) v.toInt.toNat else none
theorem cl_l2i {z : Int32} {v : Int64} (h : z.toInt = v.toInt) : Int32.toNatClampNeg z = v.toInt.toNat := by
  show z.toInt.toNat = _
  rw [h]
theorem ob_ma {f : Nat → va_E} {h q7 : Nat} {q1 c1 c2 c3 q5 : Nat} {pc fc mc : Int32} {kT : ClassId} {g : Nat → Option Nat} (e : f h = .inr (2, [.ref q1, .int pc, .ref c1, .ref c2, .ref c3, .ref q5, .int fc, .ref q7, .int mc])) (e7 : f q7 = .inl (kT, 24, .inr (.inr (.inr (.inr g))))) (v : Int64) : ks_ma f h v = if 0 ≤ v.toInt ∧ v.toInt < mc.toInt then g v.toInt.toNat else none := by
  unfold ks_ma
  rw [ob_mc e, ob_q7 e, e7]
  rfl
def ks_fp (f : Nat → va_E) (x : Nat) (p v : Int32) : Nat → va_E := if p.toInt < (aN (f x) : Int) then s_I f x (Int32.toNatClampNeg p) v else f
def ks_flr (f : Nat → va_E) (h : Nat) (w : Int32) (v : Int64) : Int32 := match ks_ma f h v with
  | none => -12
  | some y => if (((sp_wan w).toInt = 5 ∧ ¬ (g_cn f y).toInt = 4) ∨ (¬ (sp_wan w).toInt = 5 ∧ (sp_wan w).toInt ≤ 2 ∧ (sp_wan w).toInt ≤ (g_cn f y).toInt ∧ (g_cn f y).toInt ≤ 2) ∨ (¬ (sp_wan w).toInt = 5 ∧ ¬ (sp_wan w).toInt ≤ 2 ∧ (g_cn f y).toInt = (sp_wan w).toInt)) then 0 else -14
def ks_fl (f : Nat → va_E) (h x : Nat) (w : Int32) (v : Int64) : Nat → va_E := match ks_ma f h v with
  | none => f
  | some y => if (((sp_wan w).toInt = 5 ∧ ¬ (g_cn f y).toInt = 4) ∨ (¬ (sp_wan w).toInt = 5 ∧ (sp_wan w).toInt ≤ 2 ∧ (sp_wan w).toInt ≤ (g_cn f y).toInt ∧ (g_cn f y).toInt ≤ 2) ∨ (¬ (sp_wan w).toInt = 5 ∧ ¬ (sp_wan w).toInt ≤ 2 ∧ (g_cn f y).toInt = (sp_wan w).toInt)) then ks_hold f x w (some y) else f
def ks_ffr (f : Nat → va_E) (h : Nat) (w : Int32) (v : Int64) : Int32 := if (w.toInt = 8 ∨ w.toInt = 11 ∨ w.toInt = 15) then ks_flr f h w v else 0
def ks_ff (kI : ClassId) (K : Nat → Nat) (L : List Nat) (f : Nat → va_E) (h x : Nat) (w : Int32) (v : Int64) (K2 : Nat → Nat) (L2 : List Nat) (f2 : Nat → va_E) : Prop := ((K2 = K ∧ L2 = L) ∧ (((w.toInt = 8 ∨ w.toInt = 11 ∨ w.toInt = 15) ∧ f2 = ks_fl f h x w v) ∨ (w.toInt = 9 ∧ ¬ (0 ≤ v.toInt ∧ v.toInt ≤ 20) ∧ f2 = s_F f x 5 (va_rf none)) ∨ (100 ≤ w.toInt ∧ ((cR (f x) 5 = none ∧ f2 = f) ∨ ∃ r p : Nat, cR (f x) 5 = some r ∧ (p : Int) = w.toInt - 100 ∧ f2 = (if (p : Int) < (aN (f r) : Int) then s_I f r p v.toInt32 else f))) ∨ (((0 ≤ w.toInt ∧ w.toInt < 17 ∧ ¬ w.toInt = 8 ∧ ¬ w.toInt = 9 ∧ ¬ w.toInt = 11 ∧ ¬ w.toInt = 15) ∧ ¬ (w.toInt = 13 ∨ w.toInt = 16)) ∧ f2 = s_J f (cP (f x) 1) (Int32.toNatClampNeg w) (ks_as w v)) ∨ ((¬ (w.toInt = 8 ∨ w.toInt = 11 ∨ w.toInt = 15) ∧ ¬ w.toInt = 9 ∧ w.toInt < 100 ∧ ¬ ((0 ≤ w.toInt ∧ w.toInt < 17 ∧ ¬ w.toInt = 8 ∧ ¬ w.toInt = 9 ∧ ¬ w.toInt = 11 ∧ ¬ w.toInt = 15) ∧ ¬ (w.toInt = 13 ∨ w.toInt = 16))) ∧ f2 = f))) ∨ ((w.toInt = 9 ∧ 0 ≤ v.toInt ∧ v.toInt ≤ 20) ∧ ∃ q : Nat, (q ∉ L ∧ K2 = va_up K q 4 ∧ L2 = q :: L) ∧ f2 = s_F (va_up f q (.inl (kI, v.toInt.toNat, .inl (fun _ => 0)))) x 5 (va_rf (some q)))
set_option maxRecDepth 20000 in
theorem in_u_X2_madeAs_X2 : ∀ w ∈ u_ws RX2 TX2 9, w ∈ wsX2_madeAs := by decide +kernel
set_option maxRecDepth 100000 in
set_option maxHeartbeats 4000000 in
theorem u_X2_madeAs (l : Launch) (dC : Nat → ClassId) (dI : Nat → Nat → Nat) (TT : Nat × Nat × Nat) (sz : Nat) (kT kI kJ : ClassId) (K : Nat → Nat) (L : List Nat) (f : Nat → va_E) (hPI : PI kT kI kJ K L f) (h0 : Nat) (hh0 : isr K L 2 h0) (n0 : Int64) : Met l yX2_madeAs wsX2_madeAs ({ frames := 0, cells := 0, slots := 0, locals := 0 } : Room) (va_Pc [.ref h0, .long n0] (pr dC dI (va_pl L f) [] [(kT, .object RX1), (kI, .int), (kJ, .long)] sz TT)) (va_Qq (fun (r : Option Nat) (u : Unit) => opr K L 1 r ∧ r = ks_ma f h0 n0) (fun _ _ => True) (va_A [] sz)) 0 0 (va_A [] sz) := by
  refine Met.ofW (cc := cX2_madeAs) (maxL := 3) (ret := (some (.object "FieldLeaves$Thing"))) (by decide) rfl ?_
  intro p e s m args below meth c s₁ B hml hv
  obtain ⟨rfl, hsz, hP, hK, hD0, hst⟩ := hv
  have hx := B.exec
  have hb := B.bytes
  have hr := B.returns
  have hts := atoms_spec (ws := wsX2_madeAs) B.pre
  have hown : s.vm.findClass RX2 = some m.cls := findClass_of_methodNamed B.named
  have hlocks := B.notSynchronized
  have iX2_ := in_u_X2_madeAs_X2
  subst hsz
  have hD := hD0.self (sz := s.heap.size)
  generalize hAe : va_A [] s.heap.size = A at hD hst ⊢
  have hA : ∀ q : Nat, s.heap.size ≤ q → A q := fun q h => by rw [← hAe]; exact Or.inr h
  have hS : va_S A s.heap s.heap [] := va_S.rf
  have hl := lv_entry ([.ref h0, .long n0]) (n := 3) (Nat.le_of_ble_eq_true rfl)
  rw [lg_entry_eq]
  generalize (lg_sl ([.ref h0, .long n0]) ++ List.replicate (3 - (lg_sl ([.ref h0, .long n0])).length) Slot.unset).toArray = ls at hl ⊢
  have hl : lv_has ls 3 [(0, .ref h0), (1, .long n0)] := hl
  have kl0_ : Int64.toInt 0 = 0 := by decide
  refine lv_lload_n hx hb dX2_madeAs_0 rfl (lv_at hl 1 rfl) ?_
  refine lv_lconst (v := 0) hx hb dX2_madeAs_1 (by decide) ?_
  refine W.lcmp hx hb dX2_madeAs_2 ?_
  refine lv_if_lt (tgt := 16) hx hb dX2_madeAs_3 (by decide) (fun c_1 => ?_) (fun c_1 => ?_)
  · have c_1 := Int64.lt_iff_toInt_lt.mp ((lg_cmp_lt n0 0).mp c_1)
    refine lv_null hx hb dX2_madeAs_16 ?_
    refine lv_goto (tgt := 27) hx hb dX2_madeAs_17 (by decide) ?_
    exact W.aret (v := va_rf none) hx hb hr (Or.inl ⟨_, rfl⟩) (va_rf_or _) (fun t ht hW => ⟨⟨none, (), rfl, ⟨(fun _ h9 => by cases h9), by unfold ks_ma; rw [if_neg (by omega)]⟩, trivial⟩, hS.F ht⟩) hS.2.2 dX2_madeAs_27
  · have c_1 := mt (fun h9 => (lg_cmp_lt n0 0).mpr (Int64.lt_iff_toInt_lt.mpr h9)) c_1
    refine lv_lload_n hx hb dX2_madeAs_6 rfl (lv_at hl 1 rfl) ?_
    refine lv_aload_n hx hb dX2_madeAs_7 rfl (lv_at hl 0 rfl) ?_
    obtain ⟨q1_2, pc_2, c1_2, c2_2, c3_2, q5_2, fc_2, q7_2, mc_2, e_2, fq1_2, fc1_2, fc2_2, fc3_2, fq5_2, ffc_2, fq7_2, fmc_2⟩ := hPI.a2 hh0
    obtain ⟨k_2, hk_2⟩ := va_plg hh0.1 e_2
    refine va_get (D := (dC, dI)) (ci := 2) (v := .int mc_2) (C := RX2) (T := TX2) (N := 9) hx hb hts iX2_ hown hK hP k_2 hk_2 rfl 8 (by decide) (hts (.fieldLink RX2 147 "FieldLeaves" "madeCount" "I") (by decide +kernel)) (fun _ h9 => h9) rfl dX2_madeAs_8 ?_
    refine lv_i2l (v := Int32.toInt64 mc_2) hx hb dX2_madeAs_11 rfl ?_
    have k_z_3 := Int32.toInt_toInt64 mc_2
    refine W.lcmp hx hb dX2_madeAs_12 ?_
    refine lv_if_lt (tgt := 20) hx hb dX2_madeAs_13 (by decide) (fun c_4 => ?_) (fun c_4 => ?_)
    · have c_4 := Int64.lt_iff_toInt_lt.mp ((lg_cmp_lt n0 (Int32.toInt64 mc_2)).mp c_4)
      refine lv_aload_n hx hb dX2_madeAs_20 rfl (lv_at hl 0 rfl) ?_
      obtain ⟨k_5, hk_5⟩ := va_plg hh0.1 e_2
      refine va_get (D := (dC, dI)) (ci := 2) (v := .ref q7_2) (C := RX2) (T := TX2) (N := 9) hx hb hts iX2_ hown hK hP k_5 hk_5 rfl 7 (by decide) (hts (.fieldLink RX2 31 "FieldLeaves" "made" "[LFieldLeaves$Thing;") (by decide +kernel)) (fun _ h9 => h9) rfl dX2_madeAs_21 ?_
      refine lv_lload_n hx hb dX2_madeAs_24 rfl (lv_at hl 1 rfl) ?_
      refine lv_l2i hx hb dX2_madeAs_25 rfl ?_
      refine lv_topi (fun z_6 ez_6 => ?_)
      have kz_6 := l2i_small ez_6 (by omega) (by omega)
      obtain ⟨g_7, e_7, fg_7⟩ := hPI.a6 fq7_2
      obtain ⟨k_7, hk_7⟩ := va_plg fq7_2.1 e_7
      have h_7 : vp_in z_6 24 := (vp_in_iff.mpr (by constructor <;> omega))
      refine va_aldq hx hb hK hP k_7 0 hk_7 rfl h_7 dX2_madeAs_26 ?_
      have fo_7 := fg_7 _ (vp_lt h_7)
      generalize eo_7 : g_7 (Int32.toNatClampNeg z_6) = o_7 at fo_7 ⊢
      rcases o_7 with _ | y_8
      · refine W.eq (g2 := F0 m 27 ls [.null]) rfl ?_
        exact W.aret (v := va_rf none) hx hb hr (Or.inl ⟨_, rfl⟩) (va_rf_or _) (fun t ht hW => ⟨⟨none, (), rfl, ⟨(fun _ h9 => by cases h9), by rw [ob_ma e_2 e_7, if_pos (by constructor <;> omega), ← cl_l2i kz_6]; exact eo_7.symm⟩, trivial⟩, hS.F ht⟩) hS.2.2 dX2_madeAs_27
      · have fy_8 := fo_7 y_8 rfl
        refine W.eq (g2 := F0 m 27 ls [.ref y_8]) rfl ?_
        exact W.aret (v := va_rf (some y_8)) hx hb hr (Or.inl ⟨_, rfl⟩) (va_rf_or _) (fun t ht hW => ⟨⟨(some y_8), (), rfl, ⟨(fun _ h9 => by cases h9; exact fy_8), by rw [ob_ma e_2 e_7, if_pos (by constructor <;> omega), ← cl_l2i kz_6]; exact eo_7.symm⟩, trivial⟩, hS.F ht⟩) hS.2.2 dX2_madeAs_27
    · have c_4 := mt (fun h9 => (lg_cmp_lt n0 (Int32.toInt64 mc_2)).mpr (Int64.lt_iff_toInt_lt.mpr h9)) c_4
      refine lv_null hx hb dX2_madeAs_16 ?_
      refine lv_goto (tgt := 27) hx hb dX2_madeAs_17 (by decide) ?_
      exact W.aret (v := va_rf none) hx hb hr (Or.inl ⟨_, rfl⟩) (va_rf_or _) (fun t ht hW => ⟨⟨none, (), rfl, ⟨(fun _ h9 => by cases h9), by unfold ks_ma; rw [ob_mc e_2, if_neg (by omega)]⟩, trivial⟩, hS.F ht⟩) hS.2.2 dX2_madeAs_27
set_option maxRecDepth 100000 in
set_option maxHeartbeats 4000000 in
theorem u_X2_fillPlace_null (l : Launch) (dC : Nat → ClassId) (dI : Nat → Nat → Nat) (TT : Nat × Nat × Nat) (sz : Nat) (kT kI kJ : ClassId) (K : Nat → Nat) (L : List Nat) (f : Nat → va_E) (hPI : PI kT kI kJ K L f) (p0 : Int32) (v0 : Int32) : Met l yX2_fillPlace wsX2_fillPlace ({ frames := 0, cells := 0, slots := 0, locals := 0 } : Room) (va_Pc [.null, .int p0, .int v0] (pr dC dI (va_pl L f) [] [(kT, .object RX1), (kI, .int), (kJ, .long)] sz TT)) (va_Qv (fun (u : Unit) => True) (fun _ _ => True) (va_A [] sz)) 0 0 (va_A [] sz) := by
  refine Met.ofW (cc := cX2_fillPlace) (maxL := 3) (ret := none) (by decide) rfl ?_
  intro p e s m args below meth c s₁ B hml hv
  obtain ⟨rfl, hsz, hP, hK, hD0, hst⟩ := hv
  have hx := B.exec
  have hb := B.bytes
  have hr := B.returns
  have hts := atoms_spec (ws := wsX2_fillPlace) B.pre
  have hown : s.vm.findClass RX2 = some m.cls := findClass_of_methodNamed B.named
  have hlocks := B.notSynchronized
  subst hsz
  have hD := hD0.self (sz := s.heap.size)
  generalize hAe : va_A [] s.heap.size = A at hD hst ⊢
  have hA : ∀ q : Nat, s.heap.size ≤ q → A q := fun q h => by rw [← hAe]; exact Or.inr h
  have hS : va_S A s.heap s.heap [] := va_S.rf
  have hl := lv_entry ([.null, .int p0, .int v0]) (n := 3) (Nat.le_of_ble_eq_true rfl)
  rw [lg_entry_eq]
  generalize (lg_sl ([.null, .int p0, .int v0]) ++ List.replicate (3 - (lg_sl ([.null, .int p0, .int v0])).length) Slot.unset).toArray = ls at hl ⊢
  have hl : lv_has ls 3 [(0, .null), (1, .int p0), (2, .int v0)] := hl
  refine lv_aload_nN hx hb dX2_fillPlace_0 rfl (lv_at hl 0 rfl) ?_
  refine lv_ifnullN (tgt := 14) hx hb dX2_fillPlace_1 (by decide) ?_
  exact W.vret hx hb hr (fun t ht hW => ⟨⟨(), rfl, trivial, trivial⟩, hS.F ht⟩) hS.2.2 dX2_fillPlace_14
set_option maxRecDepth 100000 in
set_option maxHeartbeats 4000000 in
theorem u_X2_fillPlace (l : Launch) (dC : Nat → ClassId) (dI : Nat → Nat → Nat) (TT : Nat × Nat × Nat) (sz : Nat) (kT kI kJ : ClassId) (K : Nat → Nat) (L : List Nat) (f : Nat → va_E) (hPI : PI kT kI kJ K L f) (x0 : Nat) (hx0 : isr K L 4 x0) (p0 : Int32) (v0 : Int32) (hp0 : 0 ≤ p0.toInt) : Met l yX2_fillPlace wsX2_fillPlace ({ frames := 0, cells := 0, slots := 0, locals := 0 } : Room) (va_Pc [.ref x0, .int p0, .int v0] (pr dC dI (va_pl L f) (va_pl L f) [(kT, .object RX1), (kI, .int), (kJ, .long)] sz TT)) (va_Qv (fun (u : Unit) => True) (fun (_ : Unit) t => ∃ f2 : Nat → va_E, PI kT kI kJ K L f2 ∧ (f2 = ks_fp f x0 p0 v0) ∧ va_P (dC, dI) vwCl (va_pl L f2) t.heap ∧ va_D (va_A (va_pl L f) sz) (va_pl L f2)) (va_A (va_pl L f) sz)) 0 0 (va_A (va_pl L f) sz) := by
  refine Met.ofW (cc := cX2_fillPlace) (maxL := 3) (ret := none) (by decide) rfl ?_
  intro p e s m args below meth c s₁ B hml hv
  obtain ⟨rfl, hsz, hP, hK, hD0, hst⟩ := hv
  have hx := B.exec
  have hb := B.bytes
  have hr := B.returns
  have hts := atoms_spec (ws := wsX2_fillPlace) B.pre
  have hown : s.vm.findClass RX2 = some m.cls := findClass_of_methodNamed B.named
  have hlocks := B.notSynchronized
  subst hsz
  have hD := hD0.self (sz := s.heap.size)
  generalize hAe : va_A (va_pl L f) s.heap.size = A at hD hst ⊢
  have hA : ∀ q : Nat, s.heap.size ≤ q → A q := fun q h => by rw [← hAe]; exact Or.inr h
  have hS : va_S A s.heap s.heap [] := va_S.rf
  have hl := lv_entry ([.ref x0, .int p0, .int v0]) (n := 3) (Nat.le_of_ble_eq_true rfl)
  rw [lg_entry_eq]
  generalize (lg_sl ([.ref x0, .int p0, .int v0]) ++ List.replicate (3 - (lg_sl ([.ref x0, .int p0, .int v0])).length) Slot.unset).toArray = ls at hl ⊢
  have hl : lv_has ls 3 [(0, .ref x0), (1, .int p0), (2, .int v0)] := hl
  refine lv_aload_n hx hb dX2_fillPlace_0 rfl (lv_at hl 0 rfl) ?_
  refine lv_ifnull hx hb dX2_fillPlace_1 ?_
  refine lv_iload_n hx hb dX2_fillPlace_4 rfl (lv_at hl 1 rfl) ?_
  refine lv_aload_n hx hb dX2_fillPlace_5 rfl (lv_at hl 0 rfl) ?_
  obtain ⟨n_1, g_1, e_1, fn_1⟩ := hPI.a4 hx0
  have kn_1 := nI_len fn_1
  obtain ⟨k_1, hk_1⟩ := va_plg hx0.1 e_1
  refine va_alen hx hb hK hP k_1 1 hk_1 rfl (v := Int32.ofNat n_1) rfl dX2_fillPlace_6 ?_
  refine lv_icmp_ge (tgt := 14) hx hb dX2_fillPlace_7 (by decide) (fun c_2 => ?_) (fun c_2 => ?_)
  · have c_2 := Int32.le_iff_toInt_le.mp c_2
    exact W.vret hx hb hr (fun t ht hW => ⟨⟨(), rfl, trivial, f, hPI, (by unfold ks_fp; rw [show aN (f x0) = n_1 from by rw [e_1]; rfl, if_neg (by omega)]), by rw [ht]; exact hP, hD⟩, hS.F ht⟩) hS.2.2 dX2_fillPlace_14
  · have c_2 := mt Int32.le_iff_toInt_le.mpr c_2
    refine lv_aload_n hx hb dX2_fillPlace_10 rfl (lv_at hl 0 rfl) ?_
    refine lv_iload_n hx hb dX2_fillPlace_11 rfl (lv_at hl 1 rfl) ?_
    refine lv_iload_n hx hb dX2_fillPlace_12 rfl (lv_at hl 2 rfl) ?_
    obtain ⟨k_3, hk_3⟩ := va_plg hx0.1 e_1
    have h_3 : vp_in p0 n_1 := (vp_in_iff.mpr (by constructor <;> omega))
    have hD9 := hD
    refine va_iast hx hb hK hP hD hS k_3 1 hk_3 rfl h_3 dX2_fillPlace_13 (fun H locs hP hD hS => ?_)
    have hP : va_P (dC, dI) vwCl (va_pl L (va_up f x0 (.inl (kI, n_1, .inl (upd g_1 (Int32.toNatClampNeg p0) v0))))) H := by rw [← va_pls hD9 hx0.1 hk_3 _]; exact hP
    have hD : va_D A (va_pl L (va_up f x0 (.inl (kI, n_1, .inl (upd g_1 (Int32.toNatClampNeg p0) v0))))) := by rw [← va_pls hD9 hx0.1 hk_3 _]; exact hD
    have hPI := hPI.put (e := .inl (kI, n_1, .inl (upd g_1 (Int32.toNatClampNeg p0) v0))) hx0 ⟨_, _, rfl, fn_1⟩
    have es_f_4 : va_up f x0 (.inl (kI, n_1, .inl (upd g_1 (Int32.toNatClampNeg p0) v0))) x0 = .inl (kI, n_1, .inl (upd g_1 (Int32.toNatClampNeg p0) v0)) := va_up_self _ _ _
    generalize hg_f_4 : va_up f x0 (.inl (kI, n_1, .inl (upd g_1 (Int32.toNatClampNeg p0) v0))) = f_4 at hP hD hPI es_f_4 
    exact W.vret hx hb hr (fun t ht hW => ⟨⟨(), rfl, trivial, f_4, hPI, (by unfold ks_fp; rw [show aN (f x0) = n_1 from by rw [e_1]; rfl, if_pos (by omega), s_I_of e_1]; exact hg_f_4.symm), by rw [ht]; exact hP, hD⟩, hS.F ht⟩) hS.2.2 dX2_fillPlace_14
set_option maxRecDepth 100000 in
set_option maxHeartbeats 4000000 in
theorem u_X2_fillLink (l : Launch) (dC : Nat → ClassId) (dI : Nat → Nat → Nat) (TT : Nat × Nat × Nat) (sz : Nat) (kT kI kJ : ClassId) (K : Nat → Nat) (L : List Nat) (f : Nat → va_E) (hPI : PI kT kI kJ K L f) (h0 : Nat) (hh0 : isr K L 2 h0) (x0 : Nat) (hx0 : isr K L 1 x0) (f0 : Int32) (v0 : Int64) : Met l yX2_fillLink wsX2_fillLink ({ frames := 1, cells := 0, slots := 0, locals := 22 } : Room) (va_Pc [.ref h0, .ref x0, .int f0, .long v0] (pr dC dI (va_pl L f) (va_pl L f) [(kT, .object RX1), (kI, .int), (kJ, .long)] sz TT)) (va_Qi (fun (r : Int32) (u : Unit) => r = ks_flr f h0 f0 v0) (fun (_ : Unit) t => ∃ f2 : Nat → va_E, PI kT kI kJ K L f2 ∧ (f2 = ks_fl f h0 x0 f0 v0) ∧ va_P (dC, dI) vwCl (va_pl L f2) t.heap ∧ va_D (va_A (va_pl L f) sz) (va_pl L f2)) (va_A (va_pl L f) sz)) 0 0 (va_A (va_pl L f) sz) := by
  refine Met.ofW (cc := cX2_fillLink) (maxL := 6) (ret := (some .int)) (by decide) rfl ?_
  intro p e s m args below meth c s₁ B hml hv
  obtain ⟨rfl, hsz, hP, hK, hD0, hst⟩ := hv
  have hx := B.exec
  have hb := B.bytes
  have hr := B.returns
  have hts := atoms_spec (ws := wsX2_fillLink) B.pre
  have hown : s.vm.findClass RX2 = some m.cls := findClass_of_methodNamed B.named
  have hlocks := B.notSynchronized
  subst hsz
  have hD := hD0.self (sz := s.heap.size)
  generalize hAe : va_A (va_pl L f) s.heap.size = A at hD hst ⊢
  have hA : ∀ q : Nat, s.heap.size ≤ q → A q := fun q h => by rw [← hAe]; exact Or.inr h
  have hS : va_S A s.heap s.heap [] := va_S.rf
  have hl := lv_entry ([.ref h0, .ref x0, .int f0, .long v0]) (n := 6) (Nat.le_of_ble_eq_true rfl)
  rw [lg_entry_eq]
  generalize (lg_sl ([.ref h0, .ref x0, .int f0, .long v0]) ++ List.replicate (6 - (lg_sl ([.ref h0, .ref x0, .int f0, .long v0])).length) Slot.unset).toArray = ls at hl ⊢
  have hl : lv_has ls 6 [(0, .ref h0), (1, .ref x0), (2, .int f0), (3, .long v0)] := hl
  have km14_ : Int32.toInt (-14) = -14 := by decide
  have km12_ : Int32.toInt (-12) = -12 := by decide
  have k0_ : Int32.toInt 0 = 0 := by decide
  refine lv_aload_n hx hb dX2_fillLink_0 rfl (lv_at hl 0 rfl) ?_
  refine lv_lload_n hx hb dX2_fillLink_1 rfl (lv_at hl 3 rfl) ?_
  obtain ⟨q1_1, pc_1, c1_1, c2_1, c3_1, q5_1, fc_1, q7_1, mc_1, e_1, fq1_1, fc1_1, fc2_1, fc3_1, fq5_1, ffc_1, fq7_1, fmc_1⟩ := hPI.a2 hh0
  obtain ⟨k_1, hk_1⟩ := va_plg hh0.1 e_1
  refine va_callq (va_runV (b := h0) (As := [.long v0]) (rest := []) ⟨hx, hb, hml, hown, hts⟩ (u_X2_madeAs l dC dI TT s.heap.size kT kI kJ K L f hPI h0 hh0 v0) (cwV 1 hts gX2_fillLink_X2_madeAs rfl rfl rfl (by decide +kernel) ⟨Nat.le_of_ble_eq_true rfl, Nat.le_of_ble_eq_true rfl⟩) ⟨pr_blind, va_recv hK hP (ci := 2) rfl hk_1, (pr_S (ws := va_pl L f) (wA := []) (tys := [(kT, .object RX1), (kI, .int), (kJ, .long)]) hP hK vd_nil hst hS (ro_free hS hA)).2⟩ rfl rfl hl.1 rfl (lv_room (Nat.le_of_ble_eq_true rfl)) dX2_fillLink_2 ⟨Nat.le_of_ble_eq_true rfl, Nat.le_of_ble_eq_true rfl⟩) hS (fun q _ h => (ro_free hS hA) q h) (ro_free hS hA) (fun r_2 u t H1 locs ht hvm hw hB hz1 hk1 hS => ?_)
  have hP := ro_keep hP hk1
  generalize H1 = H at hP hS ⊢
  obtain ⟨hw, hq_3⟩ := hw
  rcases r_2 with _ | y_4
  · refine W.eq (g2 := F0 m 5 ls [.null]) rfl ?_
    refine lv_astoreN (lv' := [(5, .null), (0, .ref h0), (1, .ref x0), (2, .int f0), (3, .long v0)]) hx hb dX2_fillLink_5 hl (by decide) rfl (fun ls hl => ?_)
    refine lv_aloadN hx hb dX2_fillLink_7 (lv_at hl 0 rfl) ?_
    refine lv_ifnonnullN hx hb dX2_fillLink_9 ?_
    refine lv_bipush (v := (-12)) hx hb dX2_fillLink_12 (by decide) ?_
    exact W.iret (v := (-12)) hx hb hr (fun t ht hW => ⟨⟨(-12), (), rfl, (by first | (simp only [ks_flr, ob_q1 e_1, ob_pc e_1, ob_c1 e_1, ob_c2 e_1, ob_c3 e_1, ob_q5 e_1, ob_fc e_1, ob_q7 e_1, ob_mc e_1, hq_3.symm, cl_0, cl_1, cl_2, cl_4, cl_10, cl_13, cl_16]; done) | (simp only [ks_flr, ob_q1 e_1, ob_pc e_1, ob_c1 e_1, ob_c2 e_1, ob_c3 e_1, ob_q5 e_1, ob_fc e_1, ob_q7 e_1, ob_mc e_1, hq_3.symm, cl_0, cl_1, cl_2, cl_4, cl_10, cl_13, cl_16] <;> (repeat' split) <;> first | rfl | (exfalso; omega) | contradiction | (simp only [ks_flr, ob_q1 e_1, ob_pc e_1, ob_c1 e_1, ob_c2 e_1, ob_c3 e_1, ob_q5 e_1, ob_fc e_1, ob_q7 e_1, ob_mc e_1, hq_3.symm, cl_0, cl_1, cl_2, cl_4, cl_10, cl_13, cl_16]; done) | (simp_all; done) | (simp_all; simp only [ks_flr, ob_q1 e_1, ob_pc e_1, ob_c1 e_1, ob_c2 e_1, ob_c3 e_1, ob_q5 e_1, ob_fc e_1, ob_q7 e_1, ob_mc e_1, hq_3.symm, cl_0, cl_1, cl_2, cl_4, cl_10, cl_13, cl_16]))), f, hPI, (by first | (simp only [ks_fl, ob_q1 e_1, ob_pc e_1, ob_c1 e_1, ob_c2 e_1, ob_c3 e_1, ob_q5 e_1, ob_fc e_1, ob_q7 e_1, ob_mc e_1, hq_3.symm, cl_0, cl_1, cl_2, cl_4, cl_10, cl_13, cl_16, List.set_cons_succ, List.set_cons_zero]; done) | (simp only [ks_fl, ob_q1 e_1, ob_pc e_1, ob_c1 e_1, ob_c2 e_1, ob_c3 e_1, ob_q5 e_1, ob_fc e_1, ob_q7 e_1, ob_mc e_1, hq_3.symm, cl_0, cl_1, cl_2, cl_4, cl_10, cl_13, cl_16, List.set_cons_succ, List.set_cons_zero] <;> (repeat' split) <;> first | rfl | (exfalso; omega) | contradiction | (simp only [ks_fl, ob_q1 e_1, ob_pc e_1, ob_c1 e_1, ob_c2 e_1, ob_c3 e_1, ob_q5 e_1, ob_fc e_1, ob_q7 e_1, ob_mc e_1, hq_3.symm, cl_0, cl_1, cl_2, cl_4, cl_10, cl_13, cl_16, List.set_cons_succ, List.set_cons_zero]; done) | (simp_all; done) | (simp_all; simp only [ks_fl, ob_q1 e_1, ob_pc e_1, ob_c1 e_1, ob_c2 e_1, ob_c3 e_1, ob_q5 e_1, ob_fc e_1, ob_q7 e_1, ob_mc e_1, hq_3.symm, cl_0, cl_1, cl_2, cl_4, cl_10, cl_13, cl_16, List.set_cons_succ, List.set_cons_zero]))), by rw [ht]; exact hP, hD⟩, hS.F ht⟩) hS.2.2 dX2_fillLink_14
  · have fy_4 := hw y_4 rfl
    refine W.eq (g2 := F0 m 5 ls [.ref y_4]) rfl ?_
    refine lv_astore (lv' := [(5, .ref y_4), (0, .ref h0), (1, .ref x0), (2, .int f0), (3, .long v0)]) hx hb dX2_fillLink_5 hl (by decide) rfl (fun ls hl => ?_)
    refine lv_aload hx hb dX2_fillLink_7 (lv_at hl 0 rfl) ?_
    refine lv_ifnonnull (tgt := 15) hx hb dX2_fillLink_9 (by decide) ?_
    refine lv_aload hx hb dX2_fillLink_15 (lv_at hl 0 rfl) ?_
    refine lv_iload_n hx hb dX2_fillLink_17 rfl (lv_at hl 3 rfl) ?_
    refine va_calli (va_runS (As := [.int f0]) (rest := [.ref y_4]) ⟨hx, hb, hml, hown, hts⟩ (u_X2_wantedIn l dC dI TT H.size f0) (va_cwS 1 hts gX2_fillLink_X2_wantedIn rfl rfl rfl (by decide +kernel) ⟨Nat.le_of_ble_eq_true rfl, Nat.le_of_ble_eq_true rfl⟩) (pr_S (ws := []) (wA := []) (tys := []) vp_nil (hK.sub [] rfl) vd_nil hst hS (ro_free hS hA)) rfl rfl hl.1 rfl (lv_room (Nat.le_of_ble_eq_true rfl)) dX2_fillLink_18 ⟨Nat.le_of_ble_eq_true rfl, Nat.le_of_ble_eq_true rfl⟩) hS (fun q _ h => (ro_free hS hA) q h) (ro_free hS hA) (fun r_5 u t H1 locs ht hvm hw hB hz1 hk1 hS => ?_)
    have hP := ro_keep hP hk1
    generalize H1 = H at hP hS ⊢
    have hq_6 := hw
    obtain ⟨cn_7, v_7, b_7, m_7, st_7, i_7, e_7, fv_7, fb_7, fm_7, fst_7, fi_7⟩ := hPI.a1 fy_4
    obtain ⟨k_7, hk_7⟩ := va_plg fy_4.1 e_7
    refine va_calli (va_runV (b := y_4) (As := [.int r_5]) (rest := []) ⟨hx, hb, hml, hown, hts⟩ (u_X1_isOf l dC dI TT H.size kT kI kJ K L f hPI y_4 fy_4 r_5) (cwV 1 hts gX2_fillLink_X1_isOf rfl rfl rfl (by decide +kernel) ⟨Nat.le_of_ble_eq_true rfl, Nat.le_of_ble_eq_true rfl⟩) ⟨pr_blind, va_recv hK hP (ci := 1) rfl hk_7, (pr_S (ws := va_pl L f) (wA := []) (tys := [(kT, .object RX1), (kI, .int), (kJ, .long)]) hP hK vd_nil hst hS (ro_free hS hA)).2⟩ rfl rfl hl.1 rfl (lv_room (Nat.le_of_ble_eq_true rfl)) dX2_fillLink_21 ⟨Nat.le_of_ble_eq_true rfl, Nat.le_of_ble_eq_true rfl⟩) hS (fun q _ h => (ro_free hS hA) q h) (ro_free hS hA) (fun r_8 u t H1 locs ht hvm hw hB hz1 hk1 hS => ?_)
    have hP := ro_keep hP hk1
    generalize H1 = H at hP hS ⊢
    rcases hw with ⟨rfl, hp_9⟩ | ⟨rfl, hp_9⟩
    · refine lv_if_ne (tgt := 30) hx hb dX2_fillLink_24 (by decide) (fun _ => ?_) (fun c9 => absurd c9 (by decide))
      refine lv_aload_n hx hb dX2_fillLink_30 rfl (lv_at hl 2 rfl) ?_
      refine lv_iload_n hx hb dX2_fillLink_31 rfl (lv_at hl 3 rfl) ?_
      refine lv_aload hx hb dX2_fillLink_32 (lv_at hl 0 rfl) ?_
      have hFc := pl_free hD hS hA
      obtain ⟨cn_10, v_10, b_10, m_10, st_10, i_10, e_10, fv_10, fb_10, fm_10, fst_10, fi_10⟩ := hPI.a1 hx0
      obtain ⟨k_10, hk_10⟩ := va_plg hx0.1 e_10
      refine va_callv (va_runV (b := x0) (As := [.int f0, .ref y_4]) (rest := []) ⟨hx, hb, hml, hown, hts⟩ (u_X1_hold l dC dI TT H.size kT kI kJ K L f hPI x0 hx0 f0 y_4 fy_4) (cwV 2 hts gX2_fillLink_X1_hold rfl rfl rfl (by decide +kernel) ⟨Nat.le_of_ble_eq_true rfl, Nat.le_of_ble_eq_true rfl⟩) ⟨pr_blind, va_recv hK hP (ci := 1) rfl hk_10, (pr_S (ws := va_pl L f) (wA := va_pl L f) (tys := [(kT, .object RX1), (kI, .int), (kJ, .long)]) hP hK (hD.weaken (fun _ _ _ _ => trivial)) hst hS hFc).2⟩ rfl rfl hl.1 rfl (lv_room (Nat.le_of_ble_eq_true rfl)) dX2_fillLink_34 ⟨Nat.le_of_ble_eq_true rfl, Nat.le_of_ble_eq_true rfl⟩) hS (fun q _ h => hFc q h) hFc (fun u t H1 locs ht hvm hw hB hz1 hk1 hS => ?_)
      obtain ⟨f_12, hPI, hrel, hP, hD9⟩ := hB
      rw [ht] at hP
      have hD := hD9.weaken (fun _ q _ h => hFc q.1 h)
      have hr_f_12 := hrel
      generalize H1 = H at hP hS ⊢
      refine lv_iconst (v := 0) hx hb dX2_fillLink_37 (by decide) ?_
      exact W.iret (v := 0) hx hb hr (fun t ht hW => ⟨⟨0, (), rfl, (by have hc1 := congrArg Int32.toInt (th_cn e_7); have hc2 := congrArg Int32.toInt (th_cn e_10); have hdhq_6 := congrArg Int32.toInt hq_6; first | (simp only [ks_flr, ob_q1 e_1, ob_pc e_1, ob_c1 e_1, ob_c2 e_1, ob_c3 e_1, ob_q5 e_1, ob_fc e_1, ob_q7 e_1, ob_mc e_1, th_cn e_7, th_pv e_7, th_b e_7, th_m e_7, th_s e_7, th_lk e_7, th_cn e_10, th_pv e_10, th_b e_10, th_m e_10, th_s e_10, th_lk e_10, hq_3.symm, hq_6, cl_0, cl_1, cl_2, cl_4, cl_10, cl_13, cl_16]; done) | (simp only [ks_flr, ob_q1 e_1, ob_pc e_1, ob_c1 e_1, ob_c2 e_1, ob_c3 e_1, ob_q5 e_1, ob_fc e_1, ob_q7 e_1, ob_mc e_1, th_cn e_7, th_pv e_7, th_b e_7, th_m e_7, th_s e_7, th_lk e_7, th_cn e_10, th_pv e_10, th_b e_10, th_m e_10, th_s e_10, th_lk e_10, hq_3.symm, hq_6, cl_0, cl_1, cl_2, cl_4, cl_10, cl_13, cl_16] <;> (repeat' split) <;> first | rfl | (exfalso; omega) | contradiction | (simp only [ks_flr, ob_q1 e_1, ob_pc e_1, ob_c1 e_1, ob_c2 e_1, ob_c3 e_1, ob_q5 e_1, ob_fc e_1, ob_q7 e_1, ob_mc e_1, th_cn e_7, th_pv e_7, th_b e_7, th_m e_7, th_s e_7, th_lk e_7, th_cn e_10, th_pv e_10, th_b e_10, th_m e_10, th_s e_10, th_lk e_10, hq_3.symm, hq_6, cl_0, cl_1, cl_2, cl_4, cl_10, cl_13, cl_16]; done) | (simp_all; done) | (simp_all; simp only [ks_flr, ob_q1 e_1, ob_pc e_1, ob_c1 e_1, ob_c2 e_1, ob_c3 e_1, ob_q5 e_1, ob_fc e_1, ob_q7 e_1, ob_mc e_1, th_cn e_7, th_pv e_7, th_b e_7, th_m e_7, th_s e_7, th_lk e_7, th_cn e_10, th_pv e_10, th_b e_10, th_m e_10, th_s e_10, th_lk e_10, hq_3.symm, hq_6, cl_0, cl_1, cl_2, cl_4, cl_10, cl_13, cl_16]))), f_12, hPI, (by subst hr_f_12; have hc1 := congrArg Int32.toInt (th_cn e_7); have hc2 := congrArg Int32.toInt (th_cn e_10); have hdhq_6 := congrArg Int32.toInt hq_6; first | (simp only [ks_fl, ob_q1 e_1, ob_pc e_1, ob_c1 e_1, ob_c2 e_1, ob_c3 e_1, ob_q5 e_1, ob_fc e_1, ob_q7 e_1, ob_mc e_1, th_cn e_7, th_pv e_7, th_b e_7, th_m e_7, th_s e_7, th_lk e_7, th_cn e_10, th_pv e_10, th_b e_10, th_m e_10, th_s e_10, th_lk e_10, hq_3.symm, hq_6, cl_0, cl_1, cl_2, cl_4, cl_10, cl_13, cl_16, List.set_cons_succ, List.set_cons_zero]; done) | (simp only [ks_fl, ob_q1 e_1, ob_pc e_1, ob_c1 e_1, ob_c2 e_1, ob_c3 e_1, ob_q5 e_1, ob_fc e_1, ob_q7 e_1, ob_mc e_1, th_cn e_7, th_pv e_7, th_b e_7, th_m e_7, th_s e_7, th_lk e_7, th_cn e_10, th_pv e_10, th_b e_10, th_m e_10, th_s e_10, th_lk e_10, hq_3.symm, hq_6, cl_0, cl_1, cl_2, cl_4, cl_10, cl_13, cl_16, List.set_cons_succ, List.set_cons_zero] <;> (repeat' split) <;> first | rfl | (exfalso; omega) | contradiction | (simp only [ks_fl, ob_q1 e_1, ob_pc e_1, ob_c1 e_1, ob_c2 e_1, ob_c3 e_1, ob_q5 e_1, ob_fc e_1, ob_q7 e_1, ob_mc e_1, th_cn e_7, th_pv e_7, th_b e_7, th_m e_7, th_s e_7, th_lk e_7, th_cn e_10, th_pv e_10, th_b e_10, th_m e_10, th_s e_10, th_lk e_10, hq_3.symm, hq_6, cl_0, cl_1, cl_2, cl_4, cl_10, cl_13, cl_16, List.set_cons_succ, List.set_cons_zero]; done) | (simp_all; done) | (simp_all; simp only [ks_fl, ob_q1 e_1, ob_pc e_1, ob_c1 e_1, ob_c2 e_1, ob_c3 e_1, ob_q5 e_1, ob_fc e_1, ob_q7 e_1, ob_mc e_1, th_cn e_7, th_pv e_7, th_b e_7, th_m e_7, th_s e_7, th_lk e_7, th_cn e_10, th_pv e_10, th_b e_10, th_m e_10, th_s e_10, th_lk e_10, hq_3.symm, hq_6, cl_0, cl_1, cl_2, cl_4, cl_10, cl_13, cl_16, List.set_cons_succ, List.set_cons_zero]))), by rw [ht]; exact hP, hD⟩, hS.F ht⟩) hS.2.2 dX2_fillLink_38
    · refine lv_if_ne (tgt := 30) hx hb dX2_fillLink_24 (by decide) (fun c9 => absurd c9 (by decide)) (fun _ => ?_)
      refine lv_bipush (v := (-14)) hx hb dX2_fillLink_27 (by decide) ?_
      exact W.iret (v := (-14)) hx hb hr (fun t ht hW => ⟨⟨(-14), (), rfl, (by have hc1 := congrArg Int32.toInt (th_cn e_7); have hdhq_6 := congrArg Int32.toInt hq_6; first | (simp only [ks_flr, ob_q1 e_1, ob_pc e_1, ob_c1 e_1, ob_c2 e_1, ob_c3 e_1, ob_q5 e_1, ob_fc e_1, ob_q7 e_1, ob_mc e_1, th_cn e_7, th_pv e_7, th_b e_7, th_m e_7, th_s e_7, th_lk e_7, hq_3.symm, hq_6, cl_0, cl_1, cl_2, cl_4, cl_10, cl_13, cl_16]; done) | (simp only [ks_flr, ob_q1 e_1, ob_pc e_1, ob_c1 e_1, ob_c2 e_1, ob_c3 e_1, ob_q5 e_1, ob_fc e_1, ob_q7 e_1, ob_mc e_1, th_cn e_7, th_pv e_7, th_b e_7, th_m e_7, th_s e_7, th_lk e_7, hq_3.symm, hq_6, cl_0, cl_1, cl_2, cl_4, cl_10, cl_13, cl_16] <;> (repeat' split) <;> first | rfl | (exfalso; omega) | contradiction | (simp only [ks_flr, ob_q1 e_1, ob_pc e_1, ob_c1 e_1, ob_c2 e_1, ob_c3 e_1, ob_q5 e_1, ob_fc e_1, ob_q7 e_1, ob_mc e_1, th_cn e_7, th_pv e_7, th_b e_7, th_m e_7, th_s e_7, th_lk e_7, hq_3.symm, hq_6, cl_0, cl_1, cl_2, cl_4, cl_10, cl_13, cl_16]; done) | (simp_all; done) | (simp_all; simp only [ks_flr, ob_q1 e_1, ob_pc e_1, ob_c1 e_1, ob_c2 e_1, ob_c3 e_1, ob_q5 e_1, ob_fc e_1, ob_q7 e_1, ob_mc e_1, th_cn e_7, th_pv e_7, th_b e_7, th_m e_7, th_s e_7, th_lk e_7, hq_3.symm, hq_6, cl_0, cl_1, cl_2, cl_4, cl_10, cl_13, cl_16]))), f, hPI, (by have hc1 := congrArg Int32.toInt (th_cn e_7); have hdhq_6 := congrArg Int32.toInt hq_6; first | (simp only [ks_fl, ob_q1 e_1, ob_pc e_1, ob_c1 e_1, ob_c2 e_1, ob_c3 e_1, ob_q5 e_1, ob_fc e_1, ob_q7 e_1, ob_mc e_1, th_cn e_7, th_pv e_7, th_b e_7, th_m e_7, th_s e_7, th_lk e_7, hq_3.symm, hq_6, cl_0, cl_1, cl_2, cl_4, cl_10, cl_13, cl_16, List.set_cons_succ, List.set_cons_zero]; done) | (simp only [ks_fl, ob_q1 e_1, ob_pc e_1, ob_c1 e_1, ob_c2 e_1, ob_c3 e_1, ob_q5 e_1, ob_fc e_1, ob_q7 e_1, ob_mc e_1, th_cn e_7, th_pv e_7, th_b e_7, th_m e_7, th_s e_7, th_lk e_7, hq_3.symm, hq_6, cl_0, cl_1, cl_2, cl_4, cl_10, cl_13, cl_16, List.set_cons_succ, List.set_cons_zero] <;> (repeat' split) <;> first | rfl | (exfalso; omega) | contradiction | (simp only [ks_fl, ob_q1 e_1, ob_pc e_1, ob_c1 e_1, ob_c2 e_1, ob_c3 e_1, ob_q5 e_1, ob_fc e_1, ob_q7 e_1, ob_mc e_1, th_cn e_7, th_pv e_7, th_b e_7, th_m e_7, th_s e_7, th_lk e_7, hq_3.symm, hq_6, cl_0, cl_1, cl_2, cl_4, cl_10, cl_13, cl_16, List.set_cons_succ, List.set_cons_zero]; done) | (simp_all; done) | (simp_all; simp only [ks_fl, ob_q1 e_1, ob_pc e_1, ob_c1 e_1, ob_c2 e_1, ob_c3 e_1, ob_q5 e_1, ob_fc e_1, ob_q7 e_1, ob_mc e_1, th_cn e_7, th_pv e_7, th_b e_7, th_m e_7, th_s e_7, th_lk e_7, hq_3.symm, hq_6, cl_0, cl_1, cl_2, cl_4, cl_10, cl_13, cl_16, List.set_cons_succ, List.set_cons_zero]))), by rw [ht]; exact hP, hD⟩, hS.F ht⟩) hS.2.2 dX2_fillLink_29
set_option maxRecDepth 20000 in
theorem in_u_X2_fillField_X1 : ∀ w ∈ u_ws RX1 TX1 6, w ∈ wsX2_fillField := by decide +kernel
set_option maxRecDepth 100000 in
set_option maxHeartbeats 4000000 in
theorem u_X2_fillField (l : Launch) (dC : Nat → ClassId) (dI : Nat → Nat → Nat) (TT : Nat × Nat × Nat) (sz : Nat) (kT kI kJ : ClassId) (K : Nat → Nat) (L : List Nat) (f : Nat → va_E) (hPI : PI kT kI kJ K L f) (h0 : Nat) (hh0 : isr K L 2 h0) (x0 : Nat) (hx0 : isr K L 1 x0) (f0 : Int32) (v0 : Int64) : Met l yX2_fillField wsX2_fillField ({ frames := 2, cells := 1, slots := 20, locals := 47 } : Room) (va_Pc [.ref h0, .ref x0, .int f0, .long v0] (pr dC dI (va_pl L f) (va_pl L f) [(kT, .object RX1), (kI, .int), (kJ, .long)] sz TT)) (va_Qi (fun (r : Int32) (u : Unit) => r = ks_ffr f h0 f0 v0) (fun (_ : Unit) t => ∃ (K2 : Nat → Nat) (L2 : List Nat) (f2 : Nat → va_E), PI kT kI kJ K2 L2 f2 ∧ EXT K L K2 L2 ∧ (ks_ff kI K L f h0 x0 f0 v0 K2 L2 f2) ∧ va_P (dC, dI) vwCl (va_pl L2 f2) t.heap ∧ va_D (va_A (va_pl L f) sz) (va_pl L2 f2)) (va_A (va_pl L f) sz)) 1 20 (va_A (va_pl L f) sz) := by
  refine Met.ofW (cc := cX2_fillField) (maxL := 5) (ret := (some .int)) (by decide) rfl ?_
  intro p e s m args below meth c s₁ B hml hv
  obtain ⟨rfl, hsz, hP, hK, hD0, hst⟩ := hv
  have hx := B.exec
  have hb := B.bytes
  have hr := B.returns
  have hts := atoms_spec (ws := wsX2_fillField) B.pre
  have hown : s.vm.findClass RX2 = some m.cls := findClass_of_methodNamed B.named
  have hlocks := B.notSynchronized
  have iX1_ := in_u_X2_fillField_X1
  subst hsz
  have hD := hD0.self (sz := s.heap.size)
  generalize hAe : va_A (va_pl L f) s.heap.size = A at hD hst ⊢
  have hA : ∀ q : Nat, s.heap.size ≤ q → A q := fun q h => by rw [← hAe]; exact Or.inr h
  have hS : va_S A s.heap s.heap [] := va_S.rf
  have hl := lv_entry ([.ref h0, .ref x0, .int f0, .long v0]) (n := 5) (Nat.le_of_ble_eq_true rfl)
  rw [lg_entry_eq]
  generalize (lg_sl ([.ref h0, .ref x0, .int f0, .long v0]) ++ List.replicate (5 - (lg_sl ([.ref h0, .ref x0, .int f0, .long v0])).length) Slot.unset).toArray = ls at hl ⊢
  have hl : lv_has ls 5 [(0, .ref h0), (1, .ref x0), (2, .int f0), (3, .long v0)] := hl
  have k0_ : Int32.toInt 0 = 0 := by decide
  have k9_ : Int32.toInt 9 = 9 := by decide
  have k20_ : Int32.toInt 20 = 20 := by decide
  have k100_ : Int32.toInt 100 = 100 := by decide
  have kl0_ : Int64.toInt 0 = 0 := by decide
  have kl20_ : Int64.toInt 20 = 20 := by decide
  refine lv_iload_n hx hb dX2_fillField_0 rfl (lv_at hl 2 rfl) ?_
  refine va_calli (va_runS (As := [.int f0]) (rest := []) ⟨hx, hb, hml, hown, hts⟩ (c_X2_isLinkField l dC dI TT s.heap.size f0) (va_cwS 1 hts gX2_fillField_X2_isLinkField rfl rfl rfl (by decide +kernel) ⟨Nat.le_of_ble_eq_true rfl, Nat.le_of_ble_eq_true rfl⟩) (pr_S (ws := []) (wA := []) (tys := []) vp_nil (hK.sub [] rfl) vd_nil hst hS (ro_free hS hA)) rfl rfl hl.1 rfl (lv_room (Nat.le_of_ble_eq_true rfl)) dX2_fillField_1 ⟨Nat.le_of_ble_eq_true rfl, Nat.le_of_ble_eq_true rfl⟩) hS (fun q _ h => (ro_free hS hA) q h) (ro_free hS hA) (fun r_1 u t H1 locs ht hvm hw hB hz1 hk1 hS => ?_)
  have hP := ro_keep hP hk1
  generalize H1 = H at hP hS ⊢
  rcases hw with ⟨rfl, hp_2⟩ | ⟨rfl, hp_2⟩
  · refine lv_if_eq (tgt := 15) hx hb dX2_fillField_4 (by decide) (fun c9 => absurd c9 (by decide)) (fun _ => ?_)
    refine lv_aload_n hx hb dX2_fillField_7 rfl (lv_at hl 0 rfl) ?_
    refine lv_aload_n hx hb dX2_fillField_8 rfl (lv_at hl 1 rfl) ?_
    refine lv_iload_n hx hb dX2_fillField_9 rfl (lv_at hl 2 rfl) ?_
    refine lv_lload_n hx hb dX2_fillField_10 rfl (lv_at hl 3 rfl) ?_
    have hFc := pl_free hD hS hA
    obtain ⟨q1_3, pc_3, c1_3, c2_3, c3_3, q5_3, fc_3, q7_3, mc_3, e_3, fq1_3, fc1_3, fc2_3, fc3_3, fq5_3, ffc_3, fq7_3, fmc_3⟩ := hPI.a2 hh0
    obtain ⟨k_3, hk_3⟩ := va_plg hh0.1 e_3
    refine va_calli (va_runV (b := h0) (As := [.ref x0, .int f0, .long v0]) (rest := []) ⟨hx, hb, hml, hown, hts⟩ (u_X2_fillLink l dC dI TT H.size kT kI kJ K L f hPI h0 hh0 x0 hx0 f0 v0) (cwV 3 hts gX2_fillField_X2_fillLink rfl rfl rfl (by decide +kernel) ⟨Nat.le_of_ble_eq_true rfl, Nat.le_of_ble_eq_true rfl⟩) ⟨pr_blind, va_recv hK hP (ci := 2) rfl hk_3, (pr_S (ws := va_pl L f) (wA := va_pl L f) (tys := [(kT, .object RX1), (kI, .int), (kJ, .long)]) hP hK (hD.weaken (fun _ _ _ _ => trivial)) hst hS hFc).2⟩ rfl rfl hl.1 rfl (lv_room (Nat.le_of_ble_eq_true rfl)) dX2_fillField_11 ⟨Nat.le_of_ble_eq_true rfl, Nat.le_of_ble_eq_true rfl⟩) hS (fun q _ h => hFc q h) hFc (fun r_4 u t H1 locs ht hvm hw hB hz1 hk1 hS => ?_)
    obtain ⟨f_5, hPI, hrel, hP, hD9⟩ := hB
    rw [ht] at hP
    have hD := hD9.weaken (fun _ q _ h => hFc q.1 h)
    have hr_f_5 := hrel
    generalize H1 = H at hP hS ⊢
    have hq_6 := hw
    refine W.widen (k := 1) (n := 20) (by omega) (by omega) ?_
    exact W.iret (v := r_4) hx hb hr (fun t ht hW => ⟨⟨r_4, (), rfl, (by unfold ks_ffr; rw [if_pos (by omega)]; exact hq_6), K, L, f_5, hPI, EXT.rf, Or.inl ⟨⟨rfl, rfl⟩, Or.inl ⟨by omega, hr_f_5⟩⟩, by rw [ht]; exact hP, hD⟩, hS.F ht⟩) hS.2.2 dX2_fillField_14
  · refine lv_if_eq (tgt := 15) hx hb dX2_fillField_4 (by decide) (fun _ => ?_) (fun c9 => absurd c9 (by decide))
    refine lv_iload_n hx hb dX2_fillField_15 rfl (lv_at hl 2 rfl) ?_
    refine lv_bipush (v := 9) hx hb dX2_fillField_16 (by decide) ?_
    refine lv_icmp_ne (tgt := 50) hx hb dX2_fillField_18 (by decide) (fun c_7 => ?_) (fun c_7 => ?_)
    · have c_7 := mt Int32.toInt_inj.mp c_7
      refine lv_iload_n hx hb dX2_fillField_50 rfl (lv_at hl 2 rfl) ?_
      refine lv_bipush (v := 100) hx hb dX2_fillField_51 (by decide) ?_
      refine lv_icmp_lt (tgt := 72) hx hb dX2_fillField_53 (by decide) (fun c_8 => ?_) (fun c_8 => ?_)
      · have c_8 := Int32.lt_iff_toInt_lt.mp c_8
        refine lv_iload_n hx hb dX2_fillField_72 rfl (lv_at hl 2 rfl) ?_
        refine va_calli (va_runS (As := [.int f0]) (rest := []) ⟨hx, hb, hml, hown, hts⟩ (c_X2_isValueField l dC dI TT H.size f0) (va_cwS 1 hts gX2_fillField_X2_isValueField rfl rfl rfl (by decide +kernel) ⟨Nat.le_of_ble_eq_true rfl, Nat.le_of_ble_eq_true rfl⟩) (pr_S (ws := []) (wA := []) (tys := []) vp_nil (hK.sub [] rfl) vd_nil hst hS (ro_free hS hA)) rfl rfl hl.1 rfl (lv_room (Nat.le_of_ble_eq_true rfl)) dX2_fillField_73 ⟨Nat.le_of_ble_eq_true rfl, Nat.le_of_ble_eq_true rfl⟩) hS (fun q _ h => (ro_free hS hA) q h) (ro_free hS hA) (fun r_9 u t H1 locs ht hvm hw hB hz1 hk1 hS => ?_)
        have hP := ro_keep hP hk1
        generalize H1 = H at hP hS ⊢
        rcases hw with ⟨rfl, hp_10⟩ | ⟨rfl, hp_10⟩
        · refine lv_if_eq (tgt := 97) hx hb dX2_fillField_76 (by decide) (fun c9 => absurd c9 (by decide)) (fun _ => ?_)
          refine lv_iload_n hx hb dX2_fillField_79 rfl (lv_at hl 2 rfl) ?_
          refine va_calli (va_runS (As := [.int f0]) (rest := []) ⟨hx, hb, hml, hown, hts⟩ (c_X2_isFinal l dC dI TT H.size f0) (va_cwS 1 hts gX2_fillField_X2_isFinal rfl rfl rfl (by decide +kernel) ⟨Nat.le_of_ble_eq_true rfl, Nat.le_of_ble_eq_true rfl⟩) (pr_S (ws := []) (wA := []) (tys := []) vp_nil (hK.sub [] rfl) vd_nil hst hS (ro_free hS hA)) rfl rfl hl.1 rfl (lv_room (Nat.le_of_ble_eq_true rfl)) dX2_fillField_80 ⟨Nat.le_of_ble_eq_true rfl, Nat.le_of_ble_eq_true rfl⟩) hS (fun q _ h => (ro_free hS hA) q h) (ro_free hS hA) (fun r_11 u t H1 locs ht hvm hw hB hz1 hk1 hS => ?_)
          have hP := ro_keep hP hk1
          generalize H1 = H at hP hS ⊢
          rcases hw with ⟨rfl, hp_12⟩ | ⟨rfl, hp_12⟩
          · refine lv_if_ne (tgt := 97) hx hb dX2_fillField_83 (by decide) (fun _ => ?_) (fun c9 => absurd c9 (by decide))
            refine lv_iconst (v := 0) hx hb dX2_fillField_97 (by decide) ?_
            refine W.widen (k := 1) (n := 20) (by omega) (by omega) ?_
            exact W.iret (v := 0) hx hb hr (fun t ht hW => ⟨⟨0, (), rfl, (by unfold ks_ffr; rw [if_neg (by omega)]), K, L, f, hPI, EXT.rf, Or.inl ⟨⟨rfl, rfl⟩, Or.inr (Or.inr (Or.inr (Or.inr ⟨by omega, rfl⟩)))⟩, by rw [ht]; exact hP, hD⟩, hS.F ht⟩) hS.2.2 dX2_fillField_98
          · refine lv_if_ne (tgt := 97) hx hb dX2_fillField_83 (by decide) (fun c9 => absurd c9 (by decide)) (fun _ => ?_)
            refine lv_aload_n hx hb dX2_fillField_86 rfl (lv_at hl 1 rfl) ?_
            obtain ⟨cn_13, v_13, b_13, m_13, st_13, i_13, e_13, fv_13, fb_13, fm_13, fst_13, fi_13⟩ := hPI.a1 hx0
            obtain ⟨k_13, hk_13⟩ := va_plg hx0.1 e_13
            refine va_get (D := (dC, dI)) (ci := 1) (v := .ref v_13) (C := RX1) (T := TX1) (N := 6) hx hb hts iX1_ hown hK hP k_13 hk_13 rfl 1 (by decide) (hts (.fieldLink RX2 65 "FieldLeaves$Thing" "values" "[J") (by decide +kernel)) (fun _ h9 => h9) rfl dX2_fillField_87 ?_
            refine lv_iload_n hx hb dX2_fillField_90 rfl (lv_at hl 2 rfl) ?_
            refine lv_iload_n hx hb dX2_fillField_91 rfl (lv_at hl 2 rfl) ?_
            refine lv_lload_n hx hb dX2_fillField_92 rfl (lv_at hl 3 rfl) ?_
            refine va_calll (va_runS (As := [.int f0, .long v0]) (rest := [.int f0, .ref v_13]) ⟨hx, hb, hml, hown, hts⟩ (u_X2_asTold l dC dI TT H.size kT kI kJ K L f hPI f0 v0 (by constructor <;> omega)) (va_cwS 2 hts gX2_fillField_X2_asTold rfl rfl rfl (by decide +kernel) ⟨Nat.le_of_ble_eq_true rfl, Nat.le_of_ble_eq_true rfl⟩) (pr_S (ws := va_pl L f) (wA := []) (tys := [(kT, .object RX1), (kI, .int), (kJ, .long)]) hP hK vd_nil hst hS (ro_free hS hA)) rfl rfl hl.1 rfl (lv_room (Nat.le_of_ble_eq_true rfl)) dX2_fillField_93 ⟨Nat.le_of_ble_eq_true rfl, Nat.le_of_ble_eq_true rfl⟩) hS (fun q _ h => (ro_free hS hA) q h) (ro_free hS hA) (fun r_14 u t H1 locs ht hvm hw hB hz1 hk1 hS => ?_)
            have hP := ro_keep hP hk1
            generalize H1 = H at hP hS ⊢
            have hQ_15 := hw
            obtain ⟨g_16, e_16⟩ := hPI.a3 fv_13
            obtain ⟨k_16, hk_16⟩ := va_plg fv_13.1 e_16
            have h_16 : vp_in f0 17 := (vp_in_iff.mpr (by constructor <;> omega))
            have hD9 := hD
            refine va_last hx hb hK hP hD hS k_16 2 hk_16 rfl h_16 dX2_fillField_96 (fun H locs hP hD hS => ?_)
            have hP : va_P (dC, dI) vwCl (va_pl L (va_up f v_13 (.inl (kJ, 17, .inr (.inl (vp_updL g_16 (Int32.toNatClampNeg f0) r_14)))))) H := by rw [← va_pls hD9 fv_13.1 hk_16 _]; exact hP
            have hD : va_D A (va_pl L (va_up f v_13 (.inl (kJ, 17, .inr (.inl (vp_updL g_16 (Int32.toNatClampNeg f0) r_14)))))) := by rw [← va_pls hD9 fv_13.1 hk_16 _]; exact hD
            have hPI := hPI.put (e := .inl (kJ, 17, .inr (.inl (vp_updL g_16 (Int32.toNatClampNeg f0) r_14)))) fv_13 ⟨_, rfl⟩
            have es_f_17 : va_up f v_13 (.inl (kJ, 17, .inr (.inl (vp_updL g_16 (Int32.toNatClampNeg f0) r_14)))) v_13 = .inl (kJ, 17, .inr (.inl (vp_updL g_16 (Int32.toNatClampNeg f0) r_14))) := va_up_self _ _ _
            have eq_18 := (va_up_ne f (.inl (kJ, 17, .inr (.inl (vp_updL g_16 (Int32.toNatClampNeg f0) r_14)))) (isr_ne hx0 fv_13 (by decide))).trans e_13
            generalize hg_f_17 : va_up f v_13 (.inl (kJ, 17, .inr (.inl (vp_updL g_16 (Int32.toNatClampNeg f0) r_14)))) = f_17 at hP hD hPI es_f_17 eq_18
            refine lv_iconst (v := 0) hx hb dX2_fillField_97 (by decide) ?_
            refine W.widen (k := 1) (n := 20) (by omega) (by omega) ?_
            exact W.iret (v := 0) hx hb hr (fun t ht hW => ⟨⟨0, (), rfl, (by unfold ks_ffr; rw [if_neg (by omega)]), K, L, f_17, hPI, EXT.rf, Or.inl ⟨⟨rfl, rfl⟩, Or.inr (Or.inr (Or.inr (Or.inl ⟨by omega, by rw [th_pv e_13, ← hQ_15, s_J_of e_16]; exact hg_f_17.symm⟩)))⟩, by rw [ht]; exact hP, hD⟩, hS.F ht⟩) hS.2.2 dX2_fillField_98
        · refine lv_if_eq (tgt := 97) hx hb dX2_fillField_76 (by decide) (fun _ => ?_) (fun c9 => absurd c9 (by decide))
          refine lv_iconst (v := 0) hx hb dX2_fillField_97 (by decide) ?_
          refine W.widen (k := 1) (n := 20) (by omega) (by omega) ?_
          exact W.iret (v := 0) hx hb hr (fun t ht hW => ⟨⟨0, (), rfl, (by unfold ks_ffr; rw [if_neg (by omega)]), K, L, f, hPI, EXT.rf, Or.inl ⟨⟨rfl, rfl⟩, Or.inr (Or.inr (Or.inr (Or.inr ⟨by omega, rfl⟩)))⟩, by rw [ht]; exact hP, hD⟩, hS.F ht⟩) hS.2.2 dX2_fillField_98
      · have c_8 := mt Int32.lt_iff_toInt_lt.mpr c_8
        refine lv_aload_n hx hb dX2_fillField_56 rfl (lv_at hl 1 rfl) ?_
        obtain ⟨cn_19, v_19, b_19, m_19, st_19, i_19, e_19, fv_19, fb_19, fm_19, fst_19, fi_19⟩ := hPI.a1 hx0
        obtain ⟨k_19, hk_19⟩ := va_plg hx0.1 e_19
        refine va_get (D := (dC, dI)) (ci := 1) (v := va_rf i_19) (C := RX1) (T := TX1) (N := 6) hx hb hts iX1_ hown hK hP k_19 hk_19 rfl 5 (by decide) (hts (.fieldLink RX2 91 "FieldLeaves$Thing" "ints" "[I") (by decide +kernel)) (fun _ h9 => h9) rfl dX2_fillField_57 ?_
        rcases i_19 with _ | y_20
        · refine W.eq (g2 := F0 m 60 ls [.null]) rfl ?_
          refine lv_iload_n hx hb dX2_fillField_60 rfl (lv_at hl 2 rfl) ?_
          refine lv_bipush (v := 100) hx hb dX2_fillField_61 (by decide) ?_
          refine lv_isub hx hb dX2_fillField_63 ?_
          refine lv_topi (fun z_21 ez_21 => ?_)
          have kz_21 := sub_toInt ez_21 (by omega) (by omega)
          refine lv_lload_n hx hb dX2_fillField_64 rfl (lv_at hl 3 rfl) ?_
          refine lv_l2i hx hb dX2_fillField_65 rfl ?_
          refine lv_topi (fun z_22 ez_22 => ?_)
          refine va_callv (va_runS (As := [.null, .int z_21, .int z_22]) (rest := []) ⟨hx, hb, hml, hown, hts⟩ (u_X2_fillPlace_null l dC dI TT H.size kT kI kJ K L f hPI z_21 z_22) (va_cwS 3 hts gX2_fillField_X2_fillPlace rfl rfl rfl (by decide +kernel) ⟨Nat.le_of_ble_eq_true rfl, Nat.le_of_ble_eq_true rfl⟩) (pr_S (ws := va_pl L f) (wA := []) (tys := [(kT, .object RX1), (kI, .int), (kJ, .long)]) hP hK vd_nil hst hS (ro_free hS hA)) rfl rfl hl.1 rfl (lv_room (Nat.le_of_ble_eq_true rfl)) dX2_fillField_66 ⟨Nat.le_of_ble_eq_true rfl, Nat.le_of_ble_eq_true rfl⟩) hS (fun q _ h => (ro_free hS hA) q h) (ro_free hS hA) (fun u t H1 locs ht hvm hw hB hz1 hk1 hS => ?_)
          have hP := ro_keep hP hk1
          generalize H1 = H at hP hS ⊢
          refine lv_goto (tgt := 97) hx hb dX2_fillField_69 (by decide) ?_
          refine lv_iconst (v := 0) hx hb dX2_fillField_97 (by decide) ?_
          refine W.widen (k := 1) (n := 20) (by omega) (by omega) ?_
          exact W.iret (v := 0) hx hb hr (fun t ht hW => ⟨⟨0, (), rfl, (by unfold ks_ffr; rw [if_neg (by omega)]), K, L, f, hPI, EXT.rf, Or.inl ⟨⟨rfl, rfl⟩, Or.inr (Or.inr (Or.inl ⟨by omega, Or.inl ⟨th_i e_19, rfl⟩⟩))⟩, by rw [ht]; exact hP, hD⟩, hS.F ht⟩) hS.2.2 dX2_fillField_98
        · have fy_20 := fi_19 y_20 rfl
          refine W.eq (g2 := F0 m 60 ls [.ref y_20]) rfl ?_
          refine lv_iload_n hx hb dX2_fillField_60 rfl (lv_at hl 2 rfl) ?_
          refine lv_bipush (v := 100) hx hb dX2_fillField_61 (by decide) ?_
          refine lv_isub hx hb dX2_fillField_63 ?_
          refine lv_topi (fun z_24 ez_24 => ?_)
          have kz_24 := sub_toInt ez_24 (by omega) (by omega)
          refine lv_lload_n hx hb dX2_fillField_64 rfl (lv_at hl 3 rfl) ?_
          refine lv_l2i hx hb dX2_fillField_65 rfl ?_
          refine lv_topi (fun z_25 ez_25 => ?_)
          have hFc := pl_free hD hS hA
          refine va_callv (va_runS (As := [.ref y_20, .int z_24, .int z_25]) (rest := []) ⟨hx, hb, hml, hown, hts⟩ (u_X2_fillPlace l dC dI TT H.size kT kI kJ K L f hPI y_20 fy_20 z_24 z_25 (by omega)) (va_cwS 3 hts gX2_fillField_X2_fillPlace rfl rfl rfl (by decide +kernel) ⟨Nat.le_of_ble_eq_true rfl, Nat.le_of_ble_eq_true rfl⟩) (pr_S (ws := va_pl L f) (wA := va_pl L f) (tys := [(kT, .object RX1), (kI, .int), (kJ, .long)]) hP hK (hD.weaken (fun _ _ _ _ => trivial)) hst hS hFc) rfl rfl hl.1 rfl (lv_room (Nat.le_of_ble_eq_true rfl)) dX2_fillField_66 ⟨Nat.le_of_ble_eq_true rfl, Nat.le_of_ble_eq_true rfl⟩) hS (fun q _ h => hFc q h) hFc (fun u t H1 locs ht hvm hw hB hz1 hk1 hS => ?_)
          obtain ⟨f_27, hPI, hrel, hP, hD9⟩ := hB
          rw [ht] at hP
          have hD := hD9.weaken (fun _ q _ h => hFc q.1 h)
          have hr_f_27 := hrel
          generalize H1 = H at hP hS ⊢
          refine lv_goto (tgt := 97) hx hb dX2_fillField_69 (by decide) ?_
          refine lv_iconst (v := 0) hx hb dX2_fillField_97 (by decide) ?_
          refine W.widen (k := 1) (n := 20) (by omega) (by omega) ?_
          exact W.iret (v := 0) hx hb hr (fun t ht hW => ⟨⟨0, (), rfl, (by unfold ks_ffr; rw [if_neg (by omega)]), K, L, f_27, hPI, EXT.rf, Or.inl ⟨⟨rfl, rfl⟩, Or.inr (Or.inr (Or.inl ⟨by omega, Or.inr ⟨y_20, Int32.toNatClampNeg z_24, th_i e_19, by have h8 := clamp_int (i := z_24) (by omega); omega, by rw [hr_f_27]; unfold ks_fp; rw [← clamp_int (i := z_24) (by omega), ez_25]⟩⟩))⟩, by rw [ht]; exact hP, hD⟩, hS.F ht⟩) hS.2.2 dX2_fillField_98
    · have c_7 := congrArg Int32.toInt c_7
      refine lv_aload_n hx hb dX2_fillField_21 rfl (lv_at hl 1 rfl) ?_
      refine lv_lload_n hx hb dX2_fillField_22 rfl (lv_at hl 3 rfl) ?_
      refine lv_lconst (v := 0) hx hb dX2_fillField_23 (by decide) ?_
      refine W.lcmp hx hb dX2_fillField_24 ?_
      refine lv_if_lt (tgt := 43) hx hb dX2_fillField_25 (by decide) (fun c_28 => ?_) (fun c_28 => ?_)
      · have c_28 := Int64.lt_iff_toInt_lt.mp ((lg_cmp_lt v0 0).mp c_28)
        refine lv_null hx hb dX2_fillField_43 ?_
        obtain ⟨cn_29, v_29, b_29, m_29, st_29, i_29, e_29, fv_29, fb_29, fm_29, fst_29, fi_29⟩ := hPI.a1 hx0
        obtain ⟨k_29, hk_29⟩ := va_plg hx0.1 e_29
        have hD9 := hD
        refine va_put (D := (dC, dI)) (ci := 1) (v := .null) (ty := .array .int) (C := RX1) (T := TX1) (N := 6) hx hb hts iX1_ tyX1 tyX1_ok nmX1 hown hK hP hD hS k_29 hk_29 rfl 5 (by decide) (hts (.fieldLink RX2 91 "FieldLeaves$Thing" "ints" "[I") (by decide +kernel)) (fun _ h9 => h9) rfl (by decide +kernel) rfl rfl (Nat.le_of_ble_eq_true rfl) dX2_fillField_44 (fun H locs hP hD hS => ?_)
        have op_30 : opr K L 4 none := fun _ h9 => by cases h9
        have hP : va_P (dC, dI) vwCl (va_pl L (va_up f x0 (.inr (1, [.int cn_29, .ref v_29, va_rf b_29, va_rf m_29, va_rf st_29, va_rf none])))) H := by rw [← va_pls hD9 hx0.1 hk_29 _]; exact hP
        have hD : va_D A (va_pl L (va_up f x0 (.inr (1, [.int cn_29, .ref v_29, va_rf b_29, va_rf m_29, va_rf st_29, va_rf none])))) := by rw [← va_pls hD9 hx0.1 hk_29 _]; exact hD
        have hPI := hPI.put (e := .inr (1, [.int cn_29, .ref v_29, va_rf b_29, va_rf m_29, va_rf st_29, va_rf none])) hx0 ⟨cn_29, v_29, b_29, m_29, st_29, none, rfl, fv_29, fb_29, fm_29, fst_29, op_30⟩
        have es_f_31 : va_up f x0 (.inr (1, [.int cn_29, .ref v_29, va_rf b_29, va_rf m_29, va_rf st_29, va_rf none])) x0 = .inr (1, [.int cn_29, .ref v_29, va_rf b_29, va_rf m_29, va_rf st_29, va_rf none]) := va_up_self _ _ _
        generalize hg_f_31 : va_up f x0 (.inr (1, [.int cn_29, .ref v_29, va_rf b_29, va_rf m_29, va_rf st_29, va_rf none])) = f_31 at hP hD hPI es_f_31 
        refine lv_goto (tgt := 97) hx hb dX2_fillField_47 (by decide) ?_
        refine lv_iconst (v := 0) hx hb dX2_fillField_97 (by decide) ?_
        refine W.widen (k := 1) (n := 20) (by omega) (by omega) ?_
        exact W.iret (v := 0) hx hb hr (fun t ht hW => ⟨⟨0, (), rfl, (by unfold ks_ffr; rw [if_neg (by omega)]), K, L, f_31, hPI, EXT.rf, Or.inl ⟨⟨rfl, rfl⟩, Or.inr (Or.inl ⟨by omega, by omega, by subst hg_f_31; simp only [s_F_of e_29, List.set_cons_succ, List.set_cons_zero]⟩)⟩, by rw [ht]; exact hP, hD⟩, hS.F ht⟩) hS.2.2 dX2_fillField_98
      · have c_28 := mt (fun h9 => (lg_cmp_lt v0 0).mpr (Int64.lt_iff_toInt_lt.mpr h9)) c_28
        refine lv_lload_n hx hb dX2_fillField_28 rfl (lv_at hl 3 rfl) ?_
        refine lv_ldc2 hx hb hown (hts (.constantLong RX2 233 (20)) (by decide +kernel)) dX2_fillField_29 ?_
        refine W.lcmp hx hb dX2_fillField_32 ?_
        refine lv_if_gt (tgt := 43) hx hb dX2_fillField_33 (by decide) (fun c_32 => ?_) (fun c_32 => ?_)
        · have c_32 := Int64.lt_iff_toInt_lt.mp ((lg_cmp_gt v0 20).mp c_32)
          refine lv_null hx hb dX2_fillField_43 ?_
          obtain ⟨cn_33, v_33, b_33, m_33, st_33, i_33, e_33, fv_33, fb_33, fm_33, fst_33, fi_33⟩ := hPI.a1 hx0
          obtain ⟨k_33, hk_33⟩ := va_plg hx0.1 e_33
          have hD9 := hD
          refine va_put (D := (dC, dI)) (ci := 1) (v := .null) (ty := .array .int) (C := RX1) (T := TX1) (N := 6) hx hb hts iX1_ tyX1 tyX1_ok nmX1 hown hK hP hD hS k_33 hk_33 rfl 5 (by decide) (hts (.fieldLink RX2 91 "FieldLeaves$Thing" "ints" "[I") (by decide +kernel)) (fun _ h9 => h9) rfl (by decide +kernel) rfl rfl (Nat.le_of_ble_eq_true rfl) dX2_fillField_44 (fun H locs hP hD hS => ?_)
          have op_34 : opr K L 4 none := fun _ h9 => by cases h9
          have hP : va_P (dC, dI) vwCl (va_pl L (va_up f x0 (.inr (1, [.int cn_33, .ref v_33, va_rf b_33, va_rf m_33, va_rf st_33, va_rf none])))) H := by rw [← va_pls hD9 hx0.1 hk_33 _]; exact hP
          have hD : va_D A (va_pl L (va_up f x0 (.inr (1, [.int cn_33, .ref v_33, va_rf b_33, va_rf m_33, va_rf st_33, va_rf none])))) := by rw [← va_pls hD9 hx0.1 hk_33 _]; exact hD
          have hPI := hPI.put (e := .inr (1, [.int cn_33, .ref v_33, va_rf b_33, va_rf m_33, va_rf st_33, va_rf none])) hx0 ⟨cn_33, v_33, b_33, m_33, st_33, none, rfl, fv_33, fb_33, fm_33, fst_33, op_34⟩
          have es_f_35 : va_up f x0 (.inr (1, [.int cn_33, .ref v_33, va_rf b_33, va_rf m_33, va_rf st_33, va_rf none])) x0 = .inr (1, [.int cn_33, .ref v_33, va_rf b_33, va_rf m_33, va_rf st_33, va_rf none]) := va_up_self _ _ _
          generalize hg_f_35 : va_up f x0 (.inr (1, [.int cn_33, .ref v_33, va_rf b_33, va_rf m_33, va_rf st_33, va_rf none])) = f_35 at hP hD hPI es_f_35 
          refine lv_goto (tgt := 97) hx hb dX2_fillField_47 (by decide) ?_
          refine lv_iconst (v := 0) hx hb dX2_fillField_97 (by decide) ?_
          refine W.widen (k := 1) (n := 20) (by omega) (by omega) ?_
          exact W.iret (v := 0) hx hb hr (fun t ht hW => ⟨⟨0, (), rfl, (by unfold ks_ffr; rw [if_neg (by omega)]), K, L, f_35, hPI, EXT.rf, Or.inl ⟨⟨rfl, rfl⟩, Or.inr (Or.inl ⟨by omega, by omega, by subst hg_f_35; simp only [s_F_of e_33, List.set_cons_succ, List.set_cons_zero]⟩)⟩, by rw [ht]; exact hP, hD⟩, hS.F ht⟩) hS.2.2 dX2_fillField_98
        · have c_32 := mt (fun h9 => (lg_cmp_gt v0 20).mpr (Int64.lt_iff_toInt_lt.mpr h9)) c_32
          refine lv_lload_n hx hb dX2_fillField_36 rfl (lv_at hl 3 rfl) ?_
          refine lv_l2i hx hb dX2_fillField_37 rfl ?_
          refine lv_topi (fun z_36 ez_36 => ?_)
          have kz_36 := l2i_small ez_36 (by omega) (by omega)
          have hn_38 : ¬ z_36 < 0 := mt Int32.lt_iff_toInt_lt.mp (by omega)
          obtain ⟨j_38, hj_38, ej_38⟩ := nI_of2 (M := 20) (n := 20) (by decide) hn_38 (Int32.le_iff_toInt_le.mpr (by omega))
          refine va_newa (a0 := (j_38, .inl (fun _ => 0))) (N' := j_38) (atype := .int) (ty := .int) hx hb (hts (.arrayClass .int) (by decide +kernel)) rfl hK hP hD hS hA (newI j_38) hn_38 (by rw [ej_38]; exact nI_clamp (by omega)) (by show j_38 * 4 ≤ 536870912; omega) (Nat.le_of_ble_eq_true rfl) (Nat.le_trans (show 0 + j_38 ≤ 0 + 20 by omega) (Nat.le_of_ble_eq_true rfl)) dX2_fillField_38 (fun q_37 cA_38 H hK9 hP hD hS => ?_)
          obtain rfl : kI = cA_38 := ty_one hK9 1 3 rfl rfl (Or.inl rfl)
          refine W.widen (k := 1) (n := 20) (by omega) (by omega) ?_
          obtain ⟨K_40, L_41, f_39, hPI, hE, fq_42, hsm, hP, hD, hnf_38⟩ := fold1x hPI hj_38 hP hD
          have fe_43 := hx0.ext hE
          have fe_44 := hh0.ext hE
          have fe_45 := hx0.ext hE
          have hE0 := hE
          refine lv_goto (tgt := 44) hx hb dX2_fillField_40 (by decide) ?_
          obtain ⟨cn_46, v_46, b_46, m_46, st_46, i_46, e_46, fv_46, fb_46, fm_46, fst_46, fi_46⟩ := hPI.a1 fe_43
          obtain ⟨k_46, hk_46⟩ := va_plg fe_43.1 e_46
          have hD9 := hD
          refine va_put (D := (dC, dI)) (ci := 1) (v := .ref q_37) (ty := .array .int) (C := RX1) (T := TX1) (N := 6) hx hb hts iX1_ tyX1 tyX1_ok nmX1 hown hK hP hD hS k_46 hk_46 rfl 5 (by decide) (hts (.fieldLink RX2 91 "FieldLeaves$Thing" "ints" "[I") (by decide +kernel)) (fun _ h9 => h9) rfl (by decide +kernel) rfl rfl (Nat.le_of_ble_eq_true rfl) dX2_fillField_44 (fun H locs hP hD hS => ?_)
          have op_47 : opr K_40 L_41 4 (some q_37) := fun _ h9 => by cases h9; exact fq_42
          have hP : va_P (dC, dI) vwCl (va_pl L_41 (va_up f_39 x0 (.inr (1, [.int cn_46, .ref v_46, va_rf b_46, va_rf m_46, va_rf st_46, va_rf (some q_37)])))) H := by rw [← va_pls hD9 fe_43.1 hk_46 _]; exact hP
          have hD : va_D A (va_pl L_41 (va_up f_39 x0 (.inr (1, [.int cn_46, .ref v_46, va_rf b_46, va_rf m_46, va_rf st_46, va_rf (some q_37)])))) := by rw [← va_pls hD9 fe_43.1 hk_46 _]; exact hD
          have hPI := hPI.put (e := .inr (1, [.int cn_46, .ref v_46, va_rf b_46, va_rf m_46, va_rf st_46, va_rf (some q_37)])) fe_43 ⟨cn_46, v_46, b_46, m_46, st_46, (some q_37), rfl, fv_46, fb_46, fm_46, fst_46, op_47⟩
          have es_f_48 : va_up f_39 x0 (.inr (1, [.int cn_46, .ref v_46, va_rf b_46, va_rf m_46, va_rf st_46, va_rf (some q_37)])) x0 = .inr (1, [.int cn_46, .ref v_46, va_rf b_46, va_rf m_46, va_rf st_46, va_rf (some q_37)]) := va_up_self _ _ _
          generalize hg_f_48 : va_up f_39 x0 (.inr (1, [.int cn_46, .ref v_46, va_rf b_46, va_rf m_46, va_rf st_46, va_rf (some q_37)])) = f_48 at hP hD hPI es_f_48 
          refine lv_goto (tgt := 97) hx hb dX2_fillField_47 (by decide) ?_
          refine lv_iconst (v := 0) hx hb dX2_fillField_97 (by decide) ?_
          refine W.widen (k := 1) (n := 20) (by omega) (by omega) ?_
          exact W.iret (v := 0) hx hb hr (fun t ht hW => ⟨⟨0, (), rfl, (by unfold ks_ffr; rw [if_neg (by omega)]), K_40, L_41, f_48, hPI, hE0, Or.inr ⟨by omega, q_37, ⟨hnf_38.1, hnf_38.2.1, hnf_38.2.2.1⟩, by rw [← cl_l2i kz_36, show Int32.toNatClampNeg z_36 = j_38 from by rw [ej_38]; exact nI_clamp (by omega), ← hnf_38.2.2.2]; subst hg_f_48; simp only [s_F_of e_46, List.set_cons_succ, List.set_cons_zero]⟩, by rw [ht]; exact hP, hD⟩, hS.F ht⟩) hS.2.2 dX2_fillField_98

