/-- two rows with the same ints -/
def reqv (a b : Option (Nat × (Nat → Int32))) : Prop := (a = none ∧ b = none) ∨ ∃ m g g2, a = some (m, g) ∧ b = some (m, g2) ∧ ∀ i, i < m → g i = g2 i
/-- what a link field may hold -/
def mayI (c w : Int) : Prop := (w = 8 ∧ c < 3) ∨ (¬ w = 8 ∧ w = 11 ∧ (c = 1 ∨ c = 2)) ∨ (¬ w = 8 ∧ ¬ w = 11 ∧ c < 4)
/-- an object of the class (its class, values, links, row) and the reference's at place o -/
def OTv (C : Int32) (V : Nat → Int64) (N : Int → Option Nat) (R : Option (Nat × (Nat → Int32))) (rho : Nat → Nat) (fC : Nat → Int32) (fF : Nat → Int64) (fR fW : Nat → Int32) (o : Nat) : Prop := C = fC o ∧ (∀ j, j < 17 → ¬ lkf j → ¬ j = 9 → V j = r_vl fC fF o j) ∧ (∀ w, N w = (r_lk fC fF o w).map rho) ∧ reqv R (r_rw fC fR fW o)
def OTf (f : Nat → va_E) (rho : Nat → Nat) (fC : Nat → Int32) (fF : Nat → Int64) (fR fW : Nat → Int32) (o : Nat) : Prop := OTv (g_cn f (rho o)) (g_vl f (rho o)) (g_lk f (rho o)) (g_rw f (rho o)) rho fC fF fR fW o
/-- what the reference's places hold is alive and may be there -/
def RCL (fC : Nat → Int32) (fF : Nat → Int64) (A : Nat → Prop) : Prop := ∀ o w t, A o → r_lk fC fF o w = some t → A t ∧ mayI (fC t).toInt w
/-- THE TIE of the slots and the objects: A alive places, rho place to cell -/
def TIE (K : Nat → Nat) (L : List Nat) (f : Nat → va_E) (h : Nat) (fS fC : Nat → Int32) (fF : Nat → Int64) (fR fW : Nat → Int32) (A : Nat → Prop) (rho : Nat → Nat) : Prop := (∀ j, j < 12 → g_sl f h j = (r_ob (fS j)).map rho) ∧ (∀ j o, j < 12 → r_ob (fS j) = some o → A o) ∧ (∀ o, A o → o < 6400 ∧ isr K L 1 (rho o) ∧ (0 ≤ (fC o).toInt ∧ (fC o).toInt ≤ 4) ∧ OTf f rho fC fF fR fW o) ∧ RCL fC fF A ∧ ∀ a b, A a → A b → rho a = rho b → a = b
section RVIEWS
variable {fS fC : Nat → Int32} {fF : Nat → Int64} {fR fW : Nat → Int32} {o : Nat} {w : Int}
theorem reqv.rf (a : Option (Nat × (Nat → Int32))) : reqv a a := by
  cases a with
  | none => exact Or.inl ⟨rfl, rfl⟩
  | some r => exact Or.inr ⟨r.1, r.2, r.2, rfl, rfl, fun _ _ => rfl⟩
theorem reqv.some {r : Nat × (Nat → Int32)} {b : Option (Nat × (Nat → Int32))} (h : reqv (some r) b) : ∃ g2, b = Option.some (r.1, g2) ∧ ∀ i, i < r.1 → r.2 i = g2 i := by
  rcases h with h | ⟨m, g, g2, h, h2, h3⟩
  · cases h.1
  · cases h
    exact ⟨g2, h2, h3⟩
/-- closed for the reference's own counting -/
theorem rcl_cl {A : Nat → Prop} (h : RCL fC fF A) (hs0 : ∀ j o, j < 12 → r_ob (fS j) = some o → A o) : CL fS fC fF A := by
  refine ⟨fun j hj hn => hs0 j _ hj (r_ob_some hn), fun o f ho hl => ?_⟩
  obtain ⟨l1, l2, l3⟩ := hl
  have l1' := l1
  unfold lkf at l1'
  have e : ((f : Int)).toNat = f := Int.toNat_natCast f
  have hh : hs (fC o).toInt (f : Int) = true := hs_iff.mpr l2
  have := r_lk_of (fC := fC) (fF := fF) (o := o) (w := (f : Int)) (by omega) hh
  rw [e, if_neg l3] at this
  exact (h o _ _ ho this).1
end RVIEWS
section TIES
variable {K : Nat → Nat} {L : List Nat} {f : Nat → va_E} {h : Nat} {fS fC : Nat → Int32} {fF : Nat → Int64} {fR fW : Nat → Int32} {A : Nat → Prop} {rho : Nat → Nat} {s t w : Int32}
theorem TIE.sl (hT : TIE K L f h fS fC fF fR fW A rho) (hs : 0 ≤ s.toInt ∧ s.toInt < 12) : ((fS (Int32.toNatClampNeg s)).toInt = -1 ∧ g_sl f h (Int32.toNatClampNeg s) = none) ∨ (¬ (fS (Int32.toNatClampNeg s)).toInt = -1 ∧ g_sl f h (Int32.toNatClampNeg s) = some (rho (Int32.toNatClampNeg (fS (Int32.toNatClampNeg s)))) ∧ A (Int32.toNatClampNeg (fS (Int32.toNatClampNeg s)))) := by
  have hc := clamp_int hs.1
  have h1 := hT.1 (Int32.toNatClampNeg s) (by omega)
  by_cases hn : (fS (Int32.toNatClampNeg s)).toInt = -1
  · rw [r_ob_none hn] at h1
    exact Or.inl ⟨hn, h1⟩
  · have h2 := hT.2.1 (Int32.toNatClampNeg s) _ (by omega) (r_ob_some hn)
    rw [r_ob_some hn] at h1
    exact Or.inr ⟨hn, h1, h2⟩
theorem TIE.cn (hT : TIE K L f h fS fC fF fR fW A rho) {o : Nat} (ho : A o) : g_cn f (rho o) = fC o ∧ 0 ≤ (fC o).toInt ∧ (fC o).toInt ≤ 4 := ⟨(hT.2.2.1 o ho).2.2.2.1, (hT.2.2.1 o ho).2.2.1⟩
theorem TIE.vl (hT : TIE K L f h fS fC fF fR fW A rho) {o j : Nat} (ho : A o) (h1 : j < 17) (h2 : ¬ lkf j) (h3 : ¬ j = 9) : g_vl f (rho o) j = r_vl fC fF o j := (hT.2.2.1 o ho).2.2.2.2.1 j h1 h2 h3
theorem TIE.lk (hT : TIE K L f h fS fC fF fR fW A rho) {o : Nat} (ho : A o) (w : Int) : g_lk f (rho o) w = (r_lk fC fF o w).map rho := (hT.2.2.1 o ho).2.2.2.2.2.1 w
theorem TIE.rw (hT : TIE K L f h fS fC fF fR fW A rho) {o : Nat} (ho : A o) : reqv (g_rw f (rho o)) (r_rw fC fR fW o) := (hT.2.2.1 o ho).2.2.2.2.2.2
theorem tie_same (hrS : rgS fS) (hT : TIE K L f h fS fC fF fR fW A rho) : ks_same (g_sl f h) s t = rs_same fS s t := by
  unfold ks_same rs_same
  by_cases hp : (0 ≤ s.toInt ∧ s.toInt < 12) ∧ (0 ≤ t.toInt ∧ t.toInt < 12)
  · rw [if_pos hp, if_pos hp]
    rcases hT.sl hp.1 with ⟨a1, a2⟩ | ⟨a1, a2, a3⟩
    · rcases hT.sl hp.2 with ⟨b1, b2⟩ | ⟨b1, b2, b3⟩
      · rw [a2, b2, if_pos rfl, if_pos (by omega)]
      · rw [a2, b2, if_neg (by intro q; cases q), if_neg (by omega)]
    · rcases hT.sl hp.2 with ⟨b1, b2⟩ | ⟨b1, b2, b3⟩
      · rw [a2, b2, if_neg (by intro q; cases q), if_neg (by omega)]
      · rw [a2, b2]
        by_cases e : (fS (Int32.toNatClampNeg s)).toInt = (fS (Int32.toNatClampNeg t)).toInt
        · rw [Int32.toInt_inj.mp e, if_pos rfl, if_pos rfl]
        · rw [if_neg e, if_neg]
          intro q
          injection q with q
          have q2 := hT.2.2.2.2 _ _ a3 b3 q
          have hs1 := clamp_int hp.1.1
          have hs2 := clamp_int hp.2.1
          have r1 := hrS (Int32.toNatClampNeg s) (by omega)
          have r2 := hrS (Int32.toNatClampNeg t) (by omega)
          have e1 := clamp_int (i := fS (Int32.toNatClampNeg s)) (by omega)
          have e2 := clamp_int (i := fS (Int32.toNatClampNeg t)) (by omega)
          omega
  · rw [if_neg hp, if_neg hp]
end TIES
theorem OWN_nat : ∀ j, j < 17 → (OWNERt j).toInt = (if j < 10 then 0 else if j < 12 then 1 else if j < 14 then 2 else if j < 16 then 3 else 4) := by decide +kernel
theorem COUNT_nat : ∀ j, j < 3 → (COUNTt j) = (if j = 0 then 4 else if j = 1 then 10 else 12) := by decide +kernel
section OWNH
variable {c w : Int32}
/-- being of a field's owner is having the field -/
theorem own_has (hc : 0 ≤ c.toInt ∧ c.toInt ≤ 4) (hw : 0 ≤ w.toInt ∧ w.toInt < 17) : (((OWNERt (Int32.toNatClampNeg w)).toInt = 5 ∧ ¬ c.toInt = 4) ∨ (¬ (OWNERt (Int32.toNatClampNeg w)).toInt = 5 ∧ (OWNERt (Int32.toNatClampNeg w)).toInt ≤ 2 ∧ (OWNERt (Int32.toNatClampNeg w)).toInt ≤ c.toInt ∧ c.toInt ≤ 2) ∨ (¬ (OWNERt (Int32.toNatClampNeg w)).toInt = 5 ∧ ¬ (OWNERt (Int32.toNatClampNeg w)).toInt ≤ 2 ∧ c.toInt = (OWNERt (Int32.toNatClampNeg w)).toInt)) ↔ hs c.toInt w.toInt = true := by
  have hcl := clamp_int hw.1
  rw [hs_iff, OWN_nat _ (by omega)]
  (repeat' split) <;> omega
theorem wan_may (hc : 0 ≤ c.toInt ∧ c.toInt ≤ 4) (hw : w.toInt = 8 ∨ w.toInt = 11 ∨ w.toInt = 15) : (((sp_wan w).toInt = 5 ∧ ¬ c.toInt = 4) ∨ (¬ (sp_wan w).toInt = 5 ∧ (sp_wan w).toInt ≤ 2 ∧ (sp_wan w).toInt ≤ c.toInt ∧ c.toInt ≤ 2) ∨ (¬ (sp_wan w).toInt = 5 ∧ ¬ (sp_wan w).toInt ≤ 2 ∧ c.toInt = (sp_wan w).toInt)) ↔ mayI c.toInt w.toInt := by
  unfold sp_wan mayI
  have k0 : Int32.toInt 0 = 0 := by decide
  have k1 : Int32.toInt 1 = 1 := by decide
  have k5 : Int32.toInt 5 = 5 := by decide
  (repeat' split) <;> omega
end OWNH
section TIER
variable {K : Nat → Nat} {L : List Nat} {f : Nat → va_E} {h : Nat} {fS fC : Nat → Int32} {fF : Nat → Int64} {fR fW : Nat → Int32} {A : Nat → Prop} {rho : Nat → Nat} {s t w : Int32}
theorem tie_cls (hT : TIE K L f h fS fC fF fR fW A rho) : ks_cls (g_sl f h) (g_cn f) s = rs_cls fS fC s := by
  unfold ks_cls rs_cls
  by_cases hp : 0 ≤ s.toInt ∧ s.toInt < 12
  · rw [if_pos hp, if_pos hp]
    rcases hT.sl hp with ⟨a1, a2⟩ | ⟨a1, a2, a3⟩
    · rw [a2, if_pos a1]
    · rw [a2, if_neg a1]
      exact (hT.cn a3).1
  · rw [if_neg hp, if_neg hp]
theorem tie_is (hT : TIE K L f h fS fC fF fR fW A rho) : ks_is (g_sl f h) (g_cn f) s w = rs_is fS fC s w := by
  unfold ks_is rs_is
  by_cases hp : (0 ≤ s.toInt ∧ s.toInt < 12) ∧ 0 ≤ w.toInt ∧ w.toInt ≤ 5
  · rw [if_pos hp, if_pos hp]
    rcases hT.sl hp.1 with ⟨a1, a2⟩ | ⟨a1, a2, a3⟩
    · rw [a2, if_pos a1]
    · rw [a2, if_neg a1]
      obtain ⟨c1, c2⟩ := hT.cn a3
      simp only [c1]
      (repeat' split) <;> first | rfl | (exfalso; omega)
  · rw [if_neg hp, if_neg hp]
theorem tie_get (hT : TIE K L f h fS fC fF fR fW A rho) : ks_get (g_sl f h) (g_cn f) (g_vl f) s w = rs_get fS fC fF s w := by
  unfold ks_get rs_get
  by_cases hp : (0 ≤ s.toInt ∧ s.toInt < 12) ∧ (0 ≤ w.toInt ∧ w.toInt < 17 ∧ ¬ w.toInt = 8 ∧ ¬ w.toInt = 9 ∧ ¬ w.toInt = 11 ∧ ¬ w.toInt = 15)
  · rw [if_pos hp, if_pos hp]
    have hcl := clamp_int hp.2.1
    rcases hT.sl hp.1 with ⟨a1, a2⟩ | ⟨a1, a2, a3⟩
    · rw [a2, if_pos a1]
    · rw [a2, if_neg a1]
      obtain ⟨c1, c2⟩ := hT.cn a3
      simp only [c1]
      by_cases hh : hs (fC (Int32.toNatClampNeg (fS (Int32.toNatClampNeg s)))).toInt w.toInt = true
      · rw [if_pos ((own_has c2 (by omega)).mpr hh), if_pos (hs_iff.mp hh), hT.vl a3 (by omega) (by unfold lkf; omega) (by omega), r_vl_in (by rw [hcl]; exact hh)]
      · rw [if_neg (mt (own_has c2 (by omega)).mp hh), if_neg (mt hs_iff.mpr hh)]
  · rw [if_neg hp, if_neg hp]
theorem tie_count (hT : TIE K L f h fS fC fF fR fW A rho) : ks_count (g_sl f h) (g_cn f) (g_vl f) s w = rs_count fS fC fF s w := by
  unfold ks_count rs_count
  by_cases hp : (0 ≤ s.toInt ∧ s.toInt < 12) ∧ 0 ≤ w.toInt ∧ w.toInt ≤ 2
  · rw [if_pos hp, if_pos hp]
    have hcl := clamp_int hp.2.1
    rcases hT.sl hp.1 with ⟨a1, a2⟩ | ⟨a1, a2, a3⟩
    · rw [a2, if_pos a1]
    · rw [a2, if_neg a1]
      obtain ⟨c1, c2⟩ := hT.cn a3
      simp only [c1]
      generalize he : Int32.toNatClampNeg (fS (Int32.toNatClampNeg s)) = o at *
      by_cases hh : w.toInt ≤ (fC o).toInt ∧ (fC o).toInt ≤ 2
      · rw [if_pos (by omega), if_pos (by omega), COUNT_nat _ (by omega)]
        rcases (show w.toInt = 0 ∨ w.toInt = 1 ∨ w.toInt = 2 by omega) with q | q | q
        · rw [if_pos (by omega), if_pos q, cl_4, hT.vl a3 (by omega) (by unfold lkf; omega) (by omega), r_vl_in (hs_iff.mpr (by omega))]
        · rw [if_neg (by omega), if_pos (by omega), if_neg (by omega), if_pos q, cl_10, hT.vl a3 (by omega) (by unfold lkf; omega) (by omega), r_vl_in (hs_iff.mpr (by omega))]
        · rw [if_neg (by omega), if_neg (by omega), if_neg (by omega), if_neg (by omega), show Int32.toNatClampNeg 12 = 12 from by decide, hT.vl a3 (by omega) (by unfold lkf; omega) (by omega), r_vl_in (hs_iff.mpr (by omega))]
      · rw [if_neg (by omega), if_neg (by omega)]
  · rw [if_neg hp, if_neg hp]
theorem tie_raise (hT : TIE K L f h fS fC fF fR fW A rho) : ks_raise (g_sl f h) (g_cn f) (g_vl f) s = rs_raise fS fC fF s := by
  unfold ks_raise rs_raise
  by_cases hp : 0 ≤ s.toInt ∧ s.toInt < 12
  · rw [if_pos hp, if_pos hp]
    rcases hT.sl hp with ⟨a1, a2⟩ | ⟨a1, a2, a3⟩
    · rw [a2, if_pos a1]
    · rw [a2, if_neg a1]
      obtain ⟨c1, c2⟩ := hT.cn a3
      unfold ks_thrown
      simp only [c1]
      by_cases hh : (fC (Int32.toNatClampNeg (fS (Int32.toNatClampNeg s)))).toInt = 4
      · rw [if_pos hh, if_pos hh, hT.vl a3 (by omega) (by unfold lkf; omega) (by omega), r_vl_in (hs_iff.mpr (by omega))]
      · rw [if_neg hh, if_neg hh]
  · rw [if_neg hp, if_neg hp]
theorem tie_length (hrR : rgR fR) (hT : TIE K L f h fS fC fF fR fW A rho) : ks_length (g_sl f h) (g_cn f) (g_rw f) s = rs_length fS fC fR s := by
  unfold ks_length rs_length
  by_cases hp : 0 ≤ s.toInt ∧ s.toInt < 12
  · rw [if_pos hp, if_pos hp]
    rcases hT.sl hp with ⟨a1, a2⟩ | ⟨a1, a2, a3⟩
    · rw [a2, if_pos a1]
    · rw [a2, if_neg a1]
      obtain ⟨c1, c2⟩ := hT.cn a3
      have hr := hT.rw a3
      have hlt := (hT.2.2.1 _ a3).1
      simp only [c1]
      generalize he : Int32.toNatClampNeg (fS (Int32.toNatClampNeg s)) = o at *
      by_cases hh : (fC o).toInt ≤ 2
      · rw [if_pos (by omega), if_pos (by omega)]
        have h9 : hs (fC o).toInt 9 = true := hs_iff.mpr (by omega)
        by_cases hn : (fR o).toInt = -1
        · rw [if_pos hn]
          have : r_rw fC fR fW o = none := by unfold r_rw; exact if_neg (fun q => q.2 hn)
          rw [this] at hr
          rcases hr with ⟨e, -⟩ | ⟨m, g, g2, -, e, -⟩
          · rw [e]
          · cases e
        · rw [if_neg hn]
          have : r_rw fC fR fW o = some ((fR o).toInt.toNat, fun i => fW (20 * o + i)) := by unfold r_rw; exact if_pos ⟨h9, hn⟩
          rw [this] at hr
          rcases hr with ⟨-, e⟩ | ⟨m, g, g2, e1, e2, -⟩
          · cases e
          · cases e2
            rw [e1]
            have hb := hrR o hlt
            exact ofNat_clamp (i := fR o) (by omega)
      · rw [if_neg (by omega), if_neg (by omega)]
  · rw [if_neg hp, if_neg hp]
end TIER

