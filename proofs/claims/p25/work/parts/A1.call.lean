theorem dp_succ (nx : Nat → Option Nat) (n t : Nat) : dp nx (n + 1) (some t) = dp nx n (nx t) + 1 := rfl
section TIEC
variable {K : Nat → Nat} {L : List Nat} {f : Nat → va_E} {h : Nat} {fS fC : Nat → Int32} {fF : Nat → Int64} {fR fW : Nat → Int32} {A : Nat → Prop} {rho : Nat → Nat} {s t w : Int32}
theorem tie_nx (hT : TIE K L f h fS fC fF fR fW A rho) {o : Nat} (ho : A o) (hc : (fC o).toInt < 4) : g_nx f (rho o) = (r_nx fC fF o).map rho ∧ ∀ t, r_nx fC fF o = some t → A t ∧ (fC t).toInt < 4 := by
  obtain ⟨c1, c2⟩ := hT.cn ho
  have key : ∀ (w : Int) (j : Nat), w = 8 ∨ w = 11 ∨ w = 15 → w.toNat = j → hs (fC o).toInt w = true → (if (fC o).toInt = 0 then 8 else if (fC o).toInt = 3 then 15 else 11) = j → ks_lead (fC o) (g_lk f (rho o)) = g_lk f (rho o) w → g_nx f (rho o) = (r_nx fC fF o).map rho ∧ ∀ t, r_nx fC fF o = some t → A t ∧ (fC t).toInt < 4 := fun w j hw hj hh e1 e2 => by
    have e3 : r_nx fC fF o = r_lk fC fF o w := by
      rw [r_lk_of hw hh, hj]
      unfold r_nx
      rw [e1]
    rw [e3]
    refine ⟨?_, fun t ht => ?_⟩
    · unfold g_nx
      rw [c1, e2]
      exact hT.lk ho w
    · obtain ⟨a1, a2⟩ := hT.2.2.2.1 o w t ho ht
      refine ⟨a1, ?_⟩
      unfold mayI at a2
      omega
  by_cases h0 : (fC o).toInt = 0
  · exact key 8 8 (by omega) rfl (hs_iff.mpr (by omega)) (by rw [if_pos h0]) (by unfold ks_lead; rw [if_pos h0])
  · by_cases h3 : (fC o).toInt = 3
    · exact key 15 15 (by omega) rfl (hs_iff.mpr (by omega)) (by rw [if_neg h0, if_pos h3]) (by unfold ks_lead; rw [if_neg h0, if_pos h3])
    · exact key 11 11 (by omega) rfl (hs_iff.mpr (by omega)) (by rw [if_neg h0, if_neg h3]) (by unfold ks_lead; rw [if_neg h0, if_neg h3])
theorem tie_dp (hT : TIE K L f h fS fC fF fR fW A rho) (n : Nat) : ∀ (p : Option Nat), (∀ t, p = some t → A t ∧ (fC t).toInt < 4) → dp (g_nx f) n (p.map rho) = dp (r_nx fC fF) n p := by
  induction n with
  | zero => intro p _; rw [dp_zero, dp_zero]
  | succ n ih =>
    intro p hp
    cases p with
    | none => rw [Option.map_none, dp_none, dp_none]
    | some t =>
      obtain ⟨h1, h2⟩ := hp t rfl
      obtain ⟨e1, e2⟩ := tie_nx hT h1 h2
      rw [Option.map_some, dp_succ, dp_succ, e1, ih _ e2]
theorem tie_n8 (hT : TIE K L f h fS fC fF fR fW A rho) {o : Nat} (ho : A o) (hc : (fC o).toInt < 3) : g_lk f (rho o) 8 = (r_n8 fF o).map rho ∧ ∀ t, r_n8 fF o = some t → A t ∧ (fC t).toInt < 3 := by
  obtain ⟨c1, c2⟩ := hT.cn ho
  have e3 : r_n8 fF o = r_lk fC fF o 8 := by
    rw [r_lk_of (by omega) (hs_iff.mpr (by omega))]
    rfl
  rw [e3]
  refine ⟨hT.lk ho 8, fun t ht => ?_⟩
  obtain ⟨a1, a2⟩ := hT.2.2.2.1 o 8 t ho ht
  refine ⟨a1, ?_⟩
  unfold mayI at a2
  omega
theorem tie_kd (hT : TIE K L f h fS fC fF fR fW A rho) : ∀ (n : Nat) (p : Option Nat) (w s : Int32), (∀ t, p = some t → A t ∧ (fC t).toInt < 3) → kd (g_cn f) (fun t => g_lk f t 8) n (p.map rho) w s = rkd fC fF n p w s
  | 0, _, _, _, _ => rfl
  | n + 1, none, _, _, _ => rfl
  | n + 1, some t, w, s, hp => by
    obtain ⟨h1, h2⟩ := hp t rfl
    obtain ⟨e1, e2⟩ := tie_n8 hT h1 h2
    show kd (g_cn f) (fun t => g_lk f t 8) n (g_lk f (rho t) 8) (w * 10) (s + w * (g_cn f (rho t) + 1)) = rkd fC fF n (if (fC t).toInt = 3 then none else r_n8 fF t) (w * 10) (s + w * (if (fC t).toInt = 3 then 7 else fC t + 1))
    rw [e1, tie_kd hT n _ _ _ e2, (hT.cn h1).1, if_neg (by omega), if_neg (by omega)]
theorem tie_name (hT : TIE K L f h fS fC fF fR fW A rho) {o : Nat} (ho : A o) (hc : (fC o).toInt < 3) : ks_name (g_cn f (rho o)) (g_vl f (rho o)) = rs_name (fC o) (fun j => fF (17 * o + j)) := by
  obtain ⟨c1, c2⟩ := hT.cn ho
  unfold ks_name rs_name
  rw [c1, hT.vl ho (j := 4) (by omega) (by unfold lkf; omega) (by omega), hT.vl ho (j := 10) (by omega) (by unfold lkf; omega) (by omega), hT.vl ho (j := 13) (by omega) (by unfold lkf; omega) (by omega)]
  rw [r_vl_in (j := 4) (hs_iff.mpr (by omega))]
  by_cases h0 : (fC o).toInt = 0
  · rw [if_pos h0, if_neg (by omega), if_neg (by omega)]
  · rw [if_neg h0, if_pos (by omega), r_vl_in (j := 10) (hs_iff.mpr (by omega))]
    by_cases h2 : (fC o).toInt = 2
    · rw [if_pos h2, r_vl_in (j := 13) (hs_iff.mpr (by omega))]
    · rw [if_neg h2, r_vl_no (j := 13) (mt hs_iff.mp (by omega))]
      have e0 : Int64.toInt32 0 = 0 := by decide
      rw [e0, Int32.add_zero]
theorem tie_call {r r2 : Int32} (hT : TIE K L f h fS fC fF fR fW A rho) (h1 : ks_call (g_sl f h) (g_cn f) (g_vl f) (g_lk f) (g_dp f) s w r) (h2 : rs_call fS fC fF s w r2) : r = r2 := by
  unfold ks_call at h1
  unfold rs_call at h2
  by_cases hp : (0 ≤ s.toInt ∧ s.toInt < 12) ∧ 0 ≤ w.toInt ∧ w.toInt ≤ 4
  · rw [if_pos hp] at h1 h2
    rcases hT.sl hp.1 with ⟨a1, a2⟩ | ⟨a1, a2, a3⟩
    · rw [a2] at h1
      rw [if_pos a1] at h2
      exact h1.trans h2.symm
    · rw [a2] at h1
      rw [if_neg a1] at h2
      obtain ⟨c1, c2⟩ := hT.cn a3
      simp only [c1] at h1
      generalize he : Int32.toNatClampNeg (fS (Int32.toNatClampNeg s)) = o at *
      by_cases hw : w.toInt = 2 ∨ w.toInt = 3
      · rw [if_pos hw] at h1 h2
        by_cases hc : (fC o).toInt < 4
        · rw [if_pos (by omega)] at h1
          rw [if_pos hc] at h2
          by_cases hw2 : w.toInt = 2
          · rw [if_pos hw2] at h1 h2
            unfold g_dp at h1
            obtain ⟨e1, e2⟩ := tie_nx hT a3 hc
            rw [e1, tie_dp hT 50 _ e2] at h1
            have e5 : dp (r_nx fC fF) 51 (some o) = dp (r_nx fC fF) 50 (r_nx fC fF o) + 1 := dp_succ _ _ _
            rw [e5] at h2
            apply Int32.toInt_inj.mp
            omega
          · rw [if_neg hw2] at h1 h2
            unfold ks_kind at h1
            rw [c1] at h1
            by_cases h3 : (fC o).toInt = 3
            · rw [if_pos h3] at h1
              have e5 : rkd fC fF 8 (some o) 1 0 = rkd fC fF 7 (if (fC o).toInt = 3 then none else r_n8 fF o) (1 * 10) (0 + 1 * (if (fC o).toInt = 3 then 7 else fC o + 1)) := rfl
              rw [e5, if_pos h3, if_pos h3, rkd_none] at h2
              rw [h1, h2]
              decide
            · rw [if_neg h3] at h1
              have := tie_kd hT 8 (some o) 1 0 (fun t ht => by cases ht; exact ⟨a3, by omega⟩)
              rw [h1, h2, ← this]
              rfl
        · rw [if_neg (by omega)] at h1
          rw [if_neg hc] at h2
          exact h1.trans h2.symm
      · rw [if_neg hw] at h1 h2
        by_cases hc : (fC o).toInt < 3
        · rw [if_pos (by omega)] at h1 h2
          by_cases hw0 : w.toInt = 0
          · rw [if_pos hw0] at h1 h2
            rw [h1, h2, ← tie_name hT a3 hc, c1]
          · rw [if_neg hw0] at h1 h2
            by_cases hw1 : w.toInt = 1
            · rw [if_pos hw1] at h1 h2
              unfold ks_secret at h1
              rw [h1, h2, hT.vl a3 (j := 1) (by omega) (by unfold lkf; omega) (by omega), hT.vl a3 (j := 2) (by omega) (by unfold lkf; omega) (by omega), r_vl_in (j := 1) (hs_iff.mpr (by omega)), r_vl_in (j := 2) (hs_iff.mpr (by omega)), Int64.toInt32_add]
            · rw [if_neg hw1] at h1 h2
              obtain ⟨e1, e2⟩ := tie_n8 hT a3 hc
              rw [e1] at h1
              unfold r_n8 at h1 e2
              by_cases hn : (fF (17 * o + 8)).toInt = -1
              · rw [if_pos hn] at h1 h2
                exact h1.trans h2.symm
              · rw [if_neg hn] at h1 h2
                obtain ⟨b1, b2⟩ := e2 _ (if_neg hn)
                rw [h2, ← tie_name hT b1 b2]
                exact h1
        · rw [if_neg (by omega)] at h1 h2
          exact h1.trans h2.symm
  · rw [if_neg hp] at h1 h2
    exact h1.trans h2.symm
end TIEC

