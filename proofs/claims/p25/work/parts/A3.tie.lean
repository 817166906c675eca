-- THE TIE goes along with each write
section TIEW
variable {kT kI kJ : ClassId} {K K2 : Nat → Nat} {L L2 : List Nat} {f f2 : Nat → va_E} {h : Nat} {fS fC : Nat → Int32} {fF : Nat → Int64} {fR fW : Nat → Int32} {A : Nat → Prop} {rho : Nat → Nat} {s t w : Int32} {ow : Nat → Nat} {ll : List (Int32 × Int32 × Int64)} {pa : Int32}
theorem otf_ov {o : Nat} (hO : OTf f rho fC fF fR fW o) (hv : OV f f2 (rho o)) : OTf f2 rho fC fF fR fW o := by
  unfold OTf at hO ⊢
  rw [hv.1, hv.2.1, hv.2.2.1, hv.2.2.2]
  exact hO
theorem TIE.mp (hT : TIE K L f h fS fC fF fR fW A rho) (hE : EXT K L K2 L2) (hs : ∀ j, j < 12 → g_sl f2 h j = g_sl f h j) (hv : ∀ t, isr K L 1 t → OV f f2 t) : TIE K2 L2 f2 h fS fC fF fR fW A rho := by
  obtain ⟨t1, t2, t3, t4, t5⟩ := hT
  refine ⟨fun j hj => by rw [hs j hj]; exact t1 j hj, t2, fun o ho => ?_, t4, t5⟩
  obtain ⟨a1, a2, a3, a4⟩ := t3 o ho
  exact ⟨a1, a2.ext hE, a3, otf_ov a4 (hv _ a2)⟩
/-- fewer are alive -/
theorem TIE.less {B : Nat → Prop} (hT : TIE K L f h fS fC fF fR fW A rho) (hB : ∀ o, B o → A o) (hsl : ∀ j o, j < 12 → r_ob (fS j) = some o → B o) (hcl : ∀ o w t, B o → r_lk fC fF o w = some t → B t) : TIE K L f h fS fC fF fR fW B rho := by
  obtain ⟨t1, t2, t3, t4, t5⟩ := hT
  exact ⟨t1, hsl, fun o ho => t3 o (hB o ho), fun o w t ho ht => ⟨hcl o w t ho ht, (t4 o w t (hB o ho) ht).2⟩, fun a b ha hb => t5 a b (hB a ha) (hB b hb)⟩
theorem tie_slot {k : Nat} {v : Int32} (hT : TIE K L f h fS fC fF fR fW A rho) (hs : g_sl f2 h = va_up (g_sl f h) k ((r_ob v).map rho)) (hA : ∀ o, r_ob v = some o → A o) (hv : ∀ t, isr K L 1 t → OV f f2 t) : TIE K L f2 h (upd fS k v) fC fF fR fW A rho := by
  obtain ⟨t1, t2, t3, t4, t5⟩ := hT
  refine ⟨fun j hj => ?_, fun j o hj ho => ?_, fun o ho => ?_, t4, t5⟩
  · rw [hs]
    by_cases e : j = k
    · subst e
      rw [va_up_self, pk_us]
    · rw [va_up_ne _ _ e, pk_un e]
      exact t1 j hj
  · by_cases e : j = k
    · subst e
      rw [pk_us] at ho
      exact hA o ho
    · rw [pk_un e] at ho
      exact t2 j o hj ho
  · obtain ⟨a1, a2, a3, a4⟩ := t3 o ho
    exact ⟨a1, a2, a3, otf_ov a4 (hv _ a2)⟩
theorem r_lk_upd {k : Nat} {v : Int64} {o : Nat} {w : Int} (hk : w = 8 ∨ w = 11 ∨ w = 15 → ¬ 17 * o + w.toNat = k) : r_lk fC (vp_updL fF k v) o w = r_lk fC fF o w := by
  unfold r_lk
  by_cases hw : w = 8 ∨ w = 11 ∨ w = 15
  · rw [pk_uLn (hk hw)]
  · rw [if_neg (fun q => hw q.1), if_neg (fun q => hw q.1)]
theorem tie_val {o j : Nat} {v : Int64} (hT : TIE K L f h fS fC fF fR fW A rho) (ho : A o) (hj : j < 17) (hl : ¬ lkf j) (h9 : ¬ j = 9) (hh : hs (fC o).toInt (j : Int) = true) (hs : g_sl f2 h = g_sl f h) (hv : ∀ t, isr K L 1 t → ¬ t = rho o → OV f f2 t) (e1 : g_cn f2 (rho o) = g_cn f (rho o)) (e2 : g_vl f2 (rho o) = vp_updL (g_vl f (rho o)) j v) (e3 : g_lk f2 (rho o) = g_lk f (rho o)) (e4 : g_rw f2 (rho o) = g_rw f (rho o)) : TIE K L f2 h fS fC (vp_updL fF (17 * o + j) v) fR fW A rho := by
  obtain ⟨t1, t2, t3, t4, t5⟩ := hT
  have hlk : ∀ o2 w, r_lk fC (vp_updL fF (17 * o + j) v) o2 w = r_lk fC fF o2 w := fun o2 w => r_lk_upd (fun hw q => hl (by unfold lkf; omega))
  refine ⟨fun q hq => by rw [hs]; exact t1 q hq, t2, fun o2 ho2 => ?_, fun a w t ha ht => t4 a w t ha (by rw [← hlk]; exact ht), t5⟩
  obtain ⟨a1, a2, a3, a4⟩ := t3 o2 ho2
  refine ⟨a1, a2, a3, ?_⟩
  by_cases e : o2 = o
  · subst e
    obtain ⟨b1, b2, b3, b4⟩ := a4
    refine ⟨e1.trans b1, fun j2 q1 q2 q3 => ?_, fun w => by rw [hlk, e3]; exact b3 w, by rw [e4]; exact b4⟩
    rw [e2]
    by_cases ej : j2 = j
    · subst ej
      rw [pk_uLs, r_vl_in hh, pk_uLs]
    · rw [pk_uLn ej, b2 j2 q1 q2 q3]
      unfold r_vl
      rw [pk_uLn (by omega)]
  · have hne : ¬ rho o2 = rho o := fun q => e (t5 o2 o ho2 ho q)
    have hov := otf_ov a4 (hv _ a2 hne)
    obtain ⟨b1, b2, b3, b4⟩ := hov
    refine ⟨b1, fun j2 q1 q2 q3 => ?_, fun w => by rw [hlk]; exact b3 w, b4⟩
    rw [b2 j2 q1 q2 q3]
    unfold r_vl
    rw [pk_uLn (by omega)]
theorem tie_link {o : Nat} {w : Int} {v : Int64} {y : Option Nat} (hT : TIE K L f h fS fC fF fR fW A rho) (ho : A o) (hw : w = 8 ∨ w = 11 ∨ w = 15) (hh : hs (fC o).toInt w = true) (hy : y = if v.toInt = -1 then none else some v.toInt.toNat) (hyA : ∀ t, y = some t → A t ∧ mayI (fC t).toInt w) (hs : g_sl f2 h = g_sl f h) (hv : ∀ t, isr K L 1 t → ¬ t = rho o → OV f f2 t) (e1 : g_cn f2 (rho o) = g_cn f (rho o)) (e2 : g_vl f2 (rho o) = g_vl f (rho o)) (e3 : ∀ u, g_lk f2 (rho o) u = if u = w then y.map rho else g_lk f (rho o) u) (e4 : g_rw f2 (rho o) = g_rw f (rho o)) : TIE K L f2 h fS fC (vp_updL fF (17 * o + w.toNat) v) fR fW A rho := by
  obtain ⟨t1, t2, t3, t4, t5⟩ := hT
  have hlo : ∀ o2 u, ¬ (o2 = o ∧ u = w) → r_lk fC (vp_updL fF (17 * o + w.toNat) v) o2 u = r_lk fC fF o2 u := fun o2 u hn => r_lk_upd (fun hu q => hn (by omega))
  have hls : r_lk fC (vp_updL fF (17 * o + w.toNat) v) o w = y := by
    rw [r_lk_of hw hh, pk_uLs, hy]
  have hvl : ∀ o2 j, ¬ lkf j → j < 17 → r_vl fC (vp_updL fF (17 * o + w.toNat) v) o2 j = r_vl fC fF o2 j := fun o2 j hj h17 => by
    unfold r_vl
    rw [pk_uLn (fun q => hj (by unfold lkf; omega))]
  refine ⟨fun q hq => by rw [hs]; exact t1 q hq, t2, fun o2 ho2 => ?_, fun a u t ha ht => ?_, t5⟩
  · obtain ⟨a1, a2, a3, a4⟩ := t3 o2 ho2
    refine ⟨a1, a2, a3, ?_⟩
    by_cases e : o2 = o
    · subst e
      obtain ⟨b1, b2, b3, b4⟩ := a4
      refine ⟨e1.trans b1, fun j2 q1 q2 q3 => by rw [e2, hvl _ _ q2 q1]; exact b2 j2 q1 q2 q3, fun u => ?_, by rw [e4]; exact b4⟩
      rw [e3]
      by_cases eu : u = w
      · subst eu
        rw [if_pos rfl, hls]
      · rw [if_neg eu, hlo _ _ (fun q => eu q.2)]
        exact b3 u
    · have hne : ¬ rho o2 = rho o := fun q => e (t5 o2 o ho2 ho q)
      have hov := otf_ov a4 (hv _ a2 hne)
      obtain ⟨b1, b2, b3, b4⟩ := hov
      exact ⟨b1, fun j2 q1 q2 q3 => by rw [hvl _ _ q2 q1]; exact b2 j2 q1 q2 q3, fun u => by rw [hlo _ _ (fun q => e q.1)]; exact b3 u, b4⟩
  · by_cases e : a = o ∧ u = w
    · obtain ⟨ea, eu⟩ := e
      subst ea
      subst eu
      rw [hls] at ht
      exact hyA t ht
    · rw [hlo a u e] at ht
      exact t4 a u t ha ht
theorem reqv.tr {a b c : Option (Nat × (Nat → Int32))} (h1 : reqv a b) (h2 : reqv b c) : reqv a c := by
  rcases h1 with ⟨a1, a2⟩ | ⟨m, g, g2, a1, a2, a3⟩
  · rcases h2 with ⟨b1, b2⟩ | ⟨m, g, g2, b1, b2, b3⟩
    · exact Or.inl ⟨a1, b2⟩
    · rw [a2] at b1; cases b1
  · rcases h2 with ⟨b1, b2⟩ | ⟨m2, g3, g4, b1, b2, b3⟩
    · rw [a2] at b1; cases b1
    · rw [a2] at b1
      cases b1
      exact Or.inr ⟨m, g, g4, a1, b2, fun i hi => (a3 i hi).trans (b3 i hi)⟩
/-- the reference's row, where nothing of it has changed -/
theorem r_rw_same {fR2 fW2 : Nat → Int32} {o : Nat} (hr : (fR o).toInt ≤ 20) (e1 : fR2 o = fR o) (e2 : ∀ i, i < 20 → fW2 (20 * o + i) = fW (20 * o + i)) : reqv (r_rw fC fR fW o) (r_rw fC fR2 fW2 o) := by
  unfold r_rw
  rw [e1]
  by_cases hp : hs (fC o).toInt 9 = true ∧ ¬ (fR o).toInt = -1
  · rw [if_pos hp, if_pos hp]
    refine Or.inr ⟨_, _, _, rfl, rfl, fun i hi => (e2 i (by omega)).symm⟩
  · rw [if_neg hp, if_neg hp]
    exact Or.inl ⟨rfl, rfl⟩
theorem tie_row {fR2 fW2 : Nat → Int32} {o : Nat} (hrR : rgR fR) (hT : TIE K L f h fS fC fF fR fW A rho) (ho : A o) (hE : EXT K L K2 L2) (hs : ∀ j, j < 12 → g_sl f2 h j = g_sl f h j) (hv : ∀ t, isr K L 1 t → ¬ t = rho o → OV f f2 t) (e1 : g_cn f2 (rho o) = g_cn f (rho o)) (e2 : g_vl f2 (rho o) = g_vl f (rho o)) (e3 : g_lk f2 (rho o) = g_lk f (rho o)) (hoth : ∀ o2, ¬ o2 = o → fR2 o2 = fR o2 ∧ ∀ i, i < 20 → fW2 (20 * o2 + i) = fW (20 * o2 + i)) (e4 : reqv (g_rw f2 (rho o)) (r_rw fC fR2 fW2 o)) : TIE K2 L2 f2 h fS fC fF fR2 fW2 A rho := by
  obtain ⟨t1, t2, t3, t4, t5⟩ := hT
  refine ⟨fun q hq => by rw [hs q hq]; exact t1 q hq, t2, fun o2 ho2 => ?_, t4, t5⟩
  obtain ⟨a1, a2, a3, a4⟩ := t3 o2 ho2
  refine ⟨a1, a2.ext hE, a3, ?_⟩
  by_cases e : o2 = o
  · subst e
    obtain ⟨b1, b2, b3, b4⟩ := a4
    exact ⟨e1.trans b1, by rw [e2]; exact b2, by rw [e3]; exact b3, e4⟩
  · have hne : ¬ rho o2 = rho o := fun q => e (t5 o2 o ho2 ho q)
    have hov := otf_ov a4 (hv _ a2 hne)
    obtain ⟨b1, b2, b3, b4⟩ := hov
    exact ⟨b1, b2, b3, b4.tr (r_rw_same (hrR o2 a1).2 (hoth o2 e).1 (hoth o2 e).2)⟩
end TIEW

