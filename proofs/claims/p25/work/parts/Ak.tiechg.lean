section TIECH
variable {K : Nat → Nat} {L : List Nat} {f : Nat → va_E} {h : Nat} {fS fC : Nat → Int32} {fF : Nat → Int64} {fR fW : Nat → Int32} {A : Nat → Prop} {rho : Nat → Nat} {s t k r r2 : Int32}
theorem tie_df (hrF : rgF fF) (hrR : rgR fR) (hT : TIE K L f h fS fC fF fR fW A rho) {a b j : Nat} (ha : A a) (hb : A b) (hc : fC a = fC b) (hj : j < 17) : dfc f (rho a) (rho b) j ↔ dfr fC fF fR fW a b j := by
  have hla := (hT.2.2.1 a ha).1
  have hlb := (hT.2.2.1 b hb).1
  unfold dfc dfr
  by_cases hl : j = 8 ∨ j = 11 ∨ j = 15
  · rw [if_pos hl, if_neg (by omega), hT.lk ha, hT.lk hb]
    by_cases hh : hs (fC a).toInt (j : Int) = true
    · have ra := hrF a j hla hl
      have rb := hrF b j hlb hl
      have e1 := r_lk_of (fC := fC) (fF := fF) (o := a) (w := (j : Int)) (by omega) hh
      have e2 := r_lk_of (fC := fC) (fF := fF) (o := b) (w := (j : Int)) (by omega) (by rw [← hc]; exact hh)
      rw [Int.toNat_natCast] at e1 e2
      have key : (r_lk fC fF a (j : Int)).map rho = (r_lk fC fF b (j : Int)).map rho ↔ fF (17 * a + j) = fF (17 * b + j) := by
        constructor
        · intro e
          have e3 : r_lk fC fF a (j : Int) = r_lk fC fF b (j : Int) := by
            cases q1 : r_lk fC fF a (j : Int) with
            | none =>
              rw [q1] at e
              cases q2 : r_lk fC fF b (j : Int) with
              | none => rfl
              | some u => rw [q2] at e; cases e
            | some u =>
              rw [q1] at e
              cases q2 : r_lk fC fF b (j : Int) with
              | none => rw [q2] at e; cases e
              | some v =>
                rw [q2] at e
                have e : some (rho u) = some (rho v) := e
                injection e with e
                rw [hT.2.2.2.2 u v (hT.2.2.2.1 a _ u ha q1).1 (hT.2.2.2.1 b _ v hb q2).1 e]
          rw [e1, e2] at e3
          apply Int64.toInt_inj.mp
          by_cases n1 : (fF (17 * a + j)).toInt = -1
          · by_cases n2 : (fF (17 * b + j)).toInt = -1
            · omega
            · rw [if_pos n1, if_neg n2] at e3
              cases e3
          · by_cases n2 : (fF (17 * b + j)).toInt = -1
            · rw [if_neg n1, if_pos n2] at e3
              cases e3
            · rw [if_neg n1, if_neg n2] at e3
              injection e3 with e3
              omega
        · intro e
          rw [e1, e2, e]
      exact ⟨fun q => ⟨hh, fun e => q (key.mpr e)⟩, fun q e => q.2 (key.mp e)⟩
    · rw [r_lk_noh hh, r_lk_noh (by rw [← hc]; exact hh)]
      exact ⟨fun q => absurd rfl q, fun q => absurd q.1 hh⟩
  · rw [if_neg hl]
    by_cases h9 : j = 9
    · rw [if_pos h9, if_pos h9]
      have q1 := hT.rw ha
      have q2 := hT.rw hb
      have ba := hrR a hla
      have bb := hrR b hlb
      rw [h9]
      by_cases hh : hs (fC a).toInt 9 = true
      · have key : reqv (g_rw f (rho a)) (g_rw f (rho b)) ↔ ((fR a).toInt = (fR b).toInt ∧ ∀ i : Nat, (i : Int) < (fR a).toInt → fW (20 * a + i) = fW (20 * b + i)) := by
          by_cases n1 : (fR a).toInt = -1
          · rw [r_rw_no n1] at q1
            have e1 : g_rw f (rho a) = none := by
              rcases q1 with ⟨e, -⟩ | ⟨_, _, _, -, e, -⟩
              · exact e
              · cases e
            by_cases n2 : (fR b).toInt = -1
            · rw [r_rw_no n2] at q2
              have e2 : g_rw f (rho b) = none := by
                rcases q2 with ⟨e, -⟩ | ⟨_, _, _, -, e, -⟩
                · exact e
                · cases e
              rw [e1, e2]
              exact ⟨fun _ => ⟨by omega, fun i hi => by omega⟩, fun _ => Or.inl ⟨rfl, rfl⟩⟩
            · rw [r_rw_is (by show hs (fC b).toInt 9 = true; rw [← hc]; exact hh) n2] at q2
              rcases q2 with ⟨-, e⟩ | ⟨m, g, g2, e2, e, -⟩
              · cases e
              · rw [e1, e2]
                exact ⟨fun q => absurd q reqv_no2, fun q => by omega⟩
          · rw [r_rw_is hh n1] at q1
            rcases q1 with ⟨-, e⟩ | ⟨m, g, g2, e1, e, e3⟩
            · cases e
            · cases e
              by_cases n2 : (fR b).toInt = -1
              · rw [r_rw_no n2] at q2
                have e2 : g_rw f (rho b) = none := by
                  rcases q2 with ⟨e, -⟩ | ⟨_, _, _, -, e, -⟩
                  · exact e
                  · cases e
                rw [e1, e2]
                exact ⟨fun q => absurd q reqv_no1, fun q => by omega⟩
              · rw [r_rw_is (by show hs (fC b).toInt 9 = true; rw [← hc]; exact hh) n2] at q2
                rcases q2 with ⟨-, e⟩ | ⟨m, g3, g4, e2, e, e4⟩
                · cases e
                · cases e
                  rw [e1, e2, reqv_ss]
                  constructor
                  · rintro ⟨x1, x2⟩
                    refine ⟨by omega, fun i hi => ?_⟩
                    have h5 := e3 i (by omega)
                    have h6 := e4 i (by omega)
                    have h7 := x2 i (by omega)
                    exact h5.symm.trans (h7.trans h6)
                  · rintro ⟨x1, x2⟩
                    refine ⟨by omega, fun i hi => ?_⟩
                    have h5 := e3 i hi
                    have h6 := e4 i (by omega)
                    exact h5.trans ((x2 i (by omega)).trans h6.symm)
        exact ⟨fun q => ⟨hh, fun e => q (key.mpr e)⟩, fun q e => q.2 (key.mp e)⟩
      · have e1 : g_rw f (rho a) = none := by
          have : r_rw fC fR fW a = none := if_neg (fun q => hh q.1)
          rw [this] at q1
          rcases q1 with ⟨e, -⟩ | ⟨_, _, _, -, e, -⟩
          · exact e
          · cases e
        have e2 : g_rw f (rho b) = none := by
          have : r_rw fC fR fW b = none := if_neg (fun q => hh (by rw [hc]; exact q.1))
          rw [this] at q2
          rcases q2 with ⟨e, -⟩ | ⟨_, _, _, -, e, -⟩
          · exact e
          · cases e
        rw [e1, e2]
        exact ⟨fun q => absurd (Or.inl ⟨rfl, rfl⟩) q, fun q => absurd q.1 hh⟩
    · rw [if_neg h9, if_neg h9, hT.vl ha hj (by unfold lkf; exact hl) h9, hT.vl hb hj (by unfold lkf; exact hl) h9]
      by_cases hh : hs (fC a).toInt (j : Int) = true
      · rw [r_vl_in hh, r_vl_in (by rw [← hc]; exact hh)]
        exact ⟨fun q => ⟨hh, q⟩, fun q => q.2⟩
      · rw [r_vl_no hh, r_vl_no (by rw [← hc]; exact hh)]
        exact ⟨fun q => absurd rfl q, fun q => absurd q.1 hh⟩
theorem tie_changed (hrF : rgF fF) (hrR : rgR fR) (hT : TIE K L f h fS fC fF fR fW A rho) (h1 : ks_chg f h s t k r) (h2 : rs_chg fS fC fF fR fW s t k r2) : r = r2 := by
  unfold ks_chg at h1
  unfold rs_chg at h2
  by_cases hp : (0 ≤ s.toInt ∧ s.toInt < 12) ∧ (0 ≤ t.toInt ∧ t.toInt < 12) ∧ 0 ≤ k.toInt
  · rw [if_pos hp] at h1 h2
    rcases hT.sl hp.1 with ⟨a1, a2⟩ | ⟨a1, a2, a3⟩
    · rw [if_pos (Or.inl a1)] at h2
      rw [a2] at h1
      have h1 : r = -11 := by
        cases g_sl f h (Int32.toNatClampNeg t) <;> exact h1
      exact h1.trans h2.symm
    · rcases hT.sl hp.2.1 with ⟨b1, b2⟩ | ⟨b1, b2, b3⟩
      · rw [if_pos (Or.inr b1)] at h2
        rw [a2, b2] at h1
        exact Eq.trans h1 h2.symm
      · rw [if_neg (fun q => q.elim a1 b1)] at h2
        rw [a2, b2] at h1
        obtain ⟨c1, -⟩ := hT.cn a3
        obtain ⟨d1, -⟩ := hT.cn b3
        simp only [c1, d1] at h1
        by_cases hc : (fC (Int32.toNatClampNeg (fS (Int32.toNatClampNeg s)))).toInt = (fC (Int32.toNatClampNeg (fS (Int32.toNatClampNeg t)))).toInt
        · rw [if_pos hc] at h1 h2
          exact chP_one 17 0 k.toInt rfl (fun i hi => tie_df hrF hrR hT a3 b3 (Int32.toInt_inj.mp hc) hi) h1 h2
        · rw [if_neg hc] at h1 h2
          exact h1.trans h2.symm
  · rw [if_neg hp] at h1 h2
    exact h1.trans h2.symm
end TIECH
