-- A BATCH of new objects on both sides
section BATCHT
variable {kT kI kJ : ClassId} {K K2 : Nat → Nat} {L L2 : List Nat} {f f2 : Nat → va_E} {h : Nat} {fS fC fC2 : Nat → Int32} {fF fF2 : Nat → Int64} {fR fW fR2 fW2 : Nat → Int32} {A B : Nat → Prop} {rho : Nat → Nat}
theorem rsm_vl {o j : Nat} (hs : RSM fC fF fR fW fC2 fF2 fR2 fW2 o) (hj : j < 17) : r_vl fC2 fF2 o j = r_vl fC fF o j := by
  unfold r_vl
  rw [hs.1, hs.2.1 j hj]
theorem rsm_lk {o : Nat} {w : Int} (hs : RSM fC fF fR fW fC2 fF2 fR2 fW2 o) : r_lk fC2 fF2 o w = r_lk fC fF o w := by
  unfold r_lk
  rw [hs.1]
  by_cases hw : w = 8 ∨ w = 11 ∨ w = 15
  · rw [hs.2.1 w.toNat (by omega)]
  · rw [if_neg (fun q => hw q.1), if_neg (fun q => hw q.1)]
theorem rsm_rw {o : Nat} (hr : (fR o).toInt ≤ 20) (hs : RSM fC fF fR fW fC2 fF2 fR2 fW2 o) : reqv (r_rw fC fR fW o) (r_rw fC2 fR2 fW2 o) := by
  have e := r_rw_same (fC := fC) hr hs.2.2.1 hs.2.2.2
  have e2 : r_rw fC2 fR2 fW2 o = r_rw fC fR2 fW2 o := by
    unfold r_rw
    rw [hs.1]
  rw [e2]
  exact e
/-- what changed of the reference is not alive -/
theorem TIE.ref (hrR : rgR fR) (hT : TIE K L f h fS fC fF fR fW B rho) (hs : ∀ o, B o → RSM fC fF fR fW fC2 fF2 fR2 fW2 o) : TIE K L f h fS fC2 fF2 fR2 fW2 B rho := by
  obtain ⟨t1, t2, t3, t4, t5⟩ := hT
  refine ⟨t1, t2, fun o ho => ?_, fun o w t ho ht => ?_, t5⟩
  · obtain ⟨a1, a2, a3, b1, b2, b3, b4⟩ := t3 o ho
    refine ⟨a1, a2, by rw [(hs o ho).1]; exact a3, by rw [(hs o ho).1]; exact b1, fun j q1 q2 q3 => by rw [rsm_vl (hs o ho) q1]; exact b2 j q1 q2 q3, fun w => by rw [rsm_lk (hs o ho)]; exact b3 w, b4.tr (rsm_rw (hrR o a1).2 (hs o ho))⟩
  · rw [rsm_lk (hs o ho)] at ht
    obtain ⟨c1, c2⟩ := t4 o w t ho ht
    exact ⟨c1, by rw [(hs t c1).1]; exact c2⟩
theorem tie_batch {n : Nat} {qs ps : Nat → Nat} {cs : Nat → Int32} {V : Nat → Nat → Int64} {N : Nat → Int → Option Nat} {R : Nat → Option (Nat × (Nat → Int32))} {k : Nat} {v : Int32} (hrR : rgR fR) (hT : TIE K L f h fS fC fF fR fW B rho) (hE : EXT K L K2 L2) (hov : ∀ t, isr K L 1 t → OV f f2 t)
    (hq : ∀ i, i < n → qs i ∉ L ∧ isr K2 L2 1 (qs i)) (hqi : ∀ i j, i < n → j < n → qs i = qs j → i = j) (hp : ∀ i, i < n → ps i < 6400 ∧ ¬ B (ps i)) (hpi : ∀ i j, i < n → j < n → ps i = ps j → i = j)
    (hoth : ∀ o, (∀ i, i < n → ¬ o = ps i) → RSM fC fF fR fW fC2 fF2 fR2 fW2 o)
    (hcl : ∀ i, i < n → g_cn f2 (qs i) = cs i ∧ g_vl f2 (qs i) = V i ∧ (∀ w, g_lk f2 (qs i) w = (N i w).map qs) ∧ g_rw f2 (qs i) = R i)
    (hN : ∀ i w t, i < n → N i w = some t → t < n ∧ mayI (cs t).toInt w)
    (hrf : ∀ i, i < n → fC2 (ps i) = cs i ∧ (0 ≤ (cs i).toInt ∧ (cs i).toInt ≤ 4) ∧ (∀ j, j < 17 → ¬ lkf j → ¬ j = 9 → V i j = r_vl fC2 fF2 (ps i) j) ∧ (∀ w, r_lk fC2 fF2 (ps i) w = (N i w).map ps) ∧ reqv (R i) (r_rw fC2 fR2 fW2 (ps i)))
    (hn : 0 < n) (hs : g_sl f2 h = va_up (g_sl f h) k (some (qs 0))) (hv : r_ob v = some (ps 0)) : ∃ rho2, TIE K2 L2 f2 h (upd fS k v) fC2 fF2 fR2 fW2 (fun o => B o ∨ ∃ i, i < n ∧ o = ps i) rho2 := by
  obtain ⟨t1, t2, t3, t4, t5⟩ := hT
  obtain ⟨rho2, hr1, hr2⟩ : ∃ rho2 : Nat → Nat, (∀ i, i < n → rho2 (ps i) = qs i) ∧ ∀ o, B o → rho2 o = rho o := by
    have dec : ∀ o, Decidable (∃ i, i < n ∧ o = ps i) := fun o => Classical.propDecidable _
    refine ⟨fun o => @dite _ (∃ i, i < n ∧ o = ps i) (dec o) (fun hx => qs (Classical.choose hx)) (fun _ => rho o), fun i hi => ?_, fun o ho => ?_⟩
    · have hx : ∃ j, j < n ∧ ps i = ps j := ⟨i, hi, rfl⟩
      show @dite _ (∃ j, j < n ∧ ps i = ps j) (dec (ps i)) (fun hx => qs (Classical.choose hx)) (fun _ => rho (ps i)) = qs i
      rw [dif_pos hx]
      have hc := Classical.choose_spec hx
      exact congrArg qs (hpi _ _ hi hc.1 hc.2).symm
    · have hx : ¬ ∃ j, j < n ∧ o = ps j := fun ⟨j, hj, e⟩ => (hp j hj).2 (by rw [← e]; exact ho)
      show @dite _ (∃ j, j < n ∧ o = ps j) (dec o) (fun hx => qs (Classical.choose hx)) (fun _ => rho o) = rho o
      rw [dif_neg hx]
  have hne : ∀ o, B o → ∀ i, i < n → ¬ o = ps i := fun o ho i hi e => (hp i hi).2 (by rw [← e]; exact ho)
  have hsm : ∀ o, B o → RSM fC fF fR fW fC2 fF2 fR2 fW2 o := fun o ho => hoth o (hne o ho)
  have hmap : ∀ o w, B o → ((r_lk fC fF o w).map rho2) = ((r_lk fC fF o w).map rho) := fun o w ho => by
    cases e : r_lk fC fF o w with
    | none => rfl
    | some t =>
      show some (rho2 t) = some (rho t)
      rw [hr2 t (t4 o w t ho e).1]
  refine ⟨rho2, fun j hj => ?_, fun j o hj ho => ?_, fun o ho => ?_, fun o w t ho ht => ?_, fun a b ha hb => ?_⟩
  · rw [hs]
    by_cases e : j = k
    · subst e
      rw [va_up_self, pk_us, hv]
      show _ = some (rho2 (ps 0))
      rw [hr1 0 hn]
    · rw [va_up_ne _ _ e, pk_un e, t1 j hj]
      cases eo : r_ob (fS j) with
      | none => rfl
      | some o =>
        show some (rho o) = some (rho2 o)
        rw [hr2 o (t2 j o hj eo)]
  · by_cases e : j = k
    · subst e
      rw [pk_us, hv] at ho
      cases ho
      exact Or.inr ⟨0, hn, rfl⟩
    · rw [pk_un e] at ho
      exact Or.inl (t2 j o hj ho)
  · rcases ho with ho | ⟨i, hi, rfl⟩
    · obtain ⟨a1, a2, a3, a4⟩ := t3 o ho
      have hv2 := hov _ a2
      obtain ⟨b1, b2, b3, b4⟩ := otf_ov a4 hv2
      refine ⟨a1, by rw [hr2 o ho]; exact a2.ext hE, by rw [(hsm o ho).1]; exact a3, ?_⟩
      unfold OTf
      rw [hr2 o ho]
      exact ⟨by rw [(hsm o ho).1]; exact b1, fun j q1 q2 q3 => by rw [rsm_vl (hsm o ho) q1]; exact b2 j q1 q2 q3, fun w => by rw [rsm_lk (hsm o ho), hmap o w ho]; exact b3 w, b4.tr (rsm_rw (hrR o a1).2 (hsm o ho))⟩
    · obtain ⟨c1, c2, c3, c4⟩ := hcl i hi
      obtain ⟨d1, d2, d3, d4, d5⟩ := hrf i hi
      refine ⟨(hp i hi).1, by rw [hr1 i hi]; exact (hq i hi).2, by rw [d1]; exact d2, ?_⟩
      unfold OTf
      rw [hr1 i hi]
      refine ⟨c1.trans d1.symm, fun j q1 q2 q3 => by rw [c2]; exact d3 j q1 q2 q3, fun w => ?_, by rw [c4]; exact d5⟩
      rw [c3 w, d4 w]
      cases e : N i w with
      | none => rfl
      | some t =>
        show some (qs t) = some (rho2 (ps t))
        rw [hr1 t (hN i w t hi e).1]
  · rcases ho with ho | ⟨i, hi, rfl⟩
    · rw [rsm_lk (hsm o ho)] at ht
      obtain ⟨c1, c2⟩ := t4 o w t ho ht
      exact ⟨Or.inl c1, by rw [(hsm t c1).1]; exact c2⟩
    · obtain ⟨d1, d2, d3, d4, d5⟩ := hrf i hi
      rw [d4 w] at ht
      cases e : N i w with
      | none => rw [e] at ht; cases ht
      | some b =>
        rw [e] at ht
        cases ht
        obtain ⟨b1, b2⟩ := hN i w b hi e
        exact ⟨Or.inr ⟨b, b1, rfl⟩, by rw [(hrf b b1).1]; exact b2⟩
  · intro e
    rcases ha with ha | ⟨i, hi, rfl⟩
    · rcases hb with hb | ⟨j, hj, rfl⟩
      · rw [hr2 a ha, hr2 b hb] at e
        exact t5 a b ha hb e
      · rw [hr2 a ha, hr1 j hj] at e
        exact absurd (e ▸ (t3 a ha).2.1.1) (hq j hj).1
    · rcases hb with hb | ⟨j, hj, rfl⟩
      · rw [hr1 i hi, hr2 b hb] at e
        exact absurd (e.symm ▸ (t3 b hb).2.1.1) (hq i hi).1
      · rw [hr1 i hi, hr1 j hj] at e
        rw [hqi i j hi hj e]
/-- what lookWhatIsHeld marks is what may be taken as alive -/
theorem tie_mark {z : Nat → Int32} (hrS : rgS fS) (hrF : rgF fF) (hT : TIE K L f h fS fC fF fR fW A rho) (hM : MK fS fC fF z) : TIE K L f h fS fC fF fR fW (fun o => o < 6400 ∧ ¬ z o = 0) rho := by
  have hc := rcl_cl hT.2.2.2.1 hT.2.1
  refine hT.less (fun o ho => hM.2.2 A hc o ho.1 ho.2) (fun j o hj ho => ?_) (fun o w t ho ht => ?_)
  · by_cases hn : (fS j).toInt = -1
    · rw [r_ob_none hn] at ho; cases ho
    · rw [r_ob_some hn] at ho
      cases ho
      have h1 := hM.1 j hj hn
      have h2 := hrS j hj
      have h3 := clamp_int (i := fS j) (by omega)
      exact ⟨by omega, h1⟩
  · obtain ⟨⟨h1, h2, h3⟩, e⟩ := r_lk_in ht
    have hl : lnk fC fF o w.toNat := ⟨by unfold lkf; omega, by
      have := hs_iff.mp h2
      unfold hasP
      omega, h3⟩
    have m := hM.2.1 o w.toNat ho.1 ho.2 hl
    have r := hrF o w.toNat ho.1 (by omega)
    unfold tgt at m
    rw [e]
    exact ⟨by omega, m⟩
end BATCHT

