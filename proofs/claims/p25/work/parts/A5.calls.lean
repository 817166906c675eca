-- CALL BY CALL: both answer alike, and the tie holds behind it
section CALLS
variable {kT kI kJ : ClassId} {K : Nat → Nat} {L : List Nat} {f f2 : Nat → va_E} {h : Nat} {fS fC : Nat → Int32} {fF : Nat → Int64} {fR fW : Nat → Int32} {A : Nat → Prop} {rho : Nat → Nat} {s t w i v n k : Int32} {x : Int64} {ow : Nat → Nat} {ll : List (Int32 × Int32 × Int64)} {pa : Int32}
theorem CZ.s5 (hPI : PI kT kI kJ K L f) (hh : isr K L 2 h) (hfr : FR (sK [5]) K L f f2) (hZ : CZ K L f h ow ll pa) : CZ K L f2 h ow ll pa := hZ.fr hPI hh hfr rfl rfl rfl rfl rfl
theorem call_clear (hPI : PI kT kI kJ K L f) (hh : isr K L 2 h) (hT : TIE K L f h fS fC fF fR fW A rho) (hZ : CZ K L f h ow ll pa) (e2 : f2 = (ks_clear f h s).1) : (ks_clear f h s).2 = rs_clear fS s ∧ TIE K L f2 h (rw_clear fS s) fC fF fR fW A rho ∧ CZ K L f2 h ow ll pa := by
  unfold ks_clear at e2 ⊢
  unfold rs_clear rw_clear
  by_cases hp : 0 ≤ s.toInt ∧ s.toInt < 12
  · rw [if_pos hp] at e2
    rw [if_pos hp, if_pos hp, if_pos hp]
    obtain ⟨u1, u2⟩ := sl_up hPI hh e2
    have k1 : Int32.toInt (-1) = -1 := by decide
    refine ⟨?_, tie_slot hT (by rw [u2, r_ob_none k1]; rfl) (fun o ho => by rw [r_ob_none k1] at ho; cases ho) (fun t ht => ov_fr hPI u1 rfl rfl rfl ht), hZ.s5 hPI hh u1⟩
    rcases hT.sl hp with ⟨a1, a2⟩ | ⟨a1, a2, a3⟩
    · rw [if_pos a1]
      show (match g_sl f h (Int32.toNatClampNeg s) with
        | none => (0 : Int32)
        | some _ => 1) = 0
      rw [a2]
    · rw [if_neg a1]
      show (match g_sl f h (Int32.toNatClampNeg s) with
        | none => (0 : Int32)
        | some _ => 1) = 1
      rw [a2]
  · rw [if_neg hp] at e2
    rw [if_neg hp, if_neg hp, if_neg hp, e2]
    exact ⟨rfl, hT, hZ⟩
theorem call_share (hPI : PI kT kI kJ K L f) (hh : isr K L 2 h) (hT : TIE K L f h fS fC fF fR fW A rho) (hZ : CZ K L f h ow ll pa) (e2 : f2 = (ks_shr f h s t).1) : (ks_shr f h s t).2 = rs_share s t ∧ TIE K L f2 h (rw_share fS s t) fC fF fR fW A rho ∧ CZ K L f2 h ow ll pa := by
  unfold ks_shr at e2 ⊢
  unfold rs_share rw_share
  by_cases hp : (0 ≤ s.toInt ∧ s.toInt < 12) ∧ (0 ≤ t.toInt ∧ t.toInt < 12)
  · rw [if_pos hp] at e2
    rw [if_pos hp, if_pos hp, if_pos hp]
    obtain ⟨u1, u2⟩ := sl_up hPI hh e2
    have hc := clamp_int hp.1.1
    have hlt : Int32.toNatClampNeg s < 12 := by omega
    exact ⟨rfl, tie_slot hT (by rw [u2, hT.1 _ hlt]) (fun o ho => hT.2.1 _ o hlt ho) (fun t ht => ov_fr hPI u1 rfl rfl rfl ht), hZ.s5 hPI hh u1⟩
  · rw [if_neg hp] at e2
    rw [if_neg hp, if_neg hp, if_neg hp, e2]
    exact ⟨rfl, hT, hZ⟩
theorem call_set (hPI : PI kT kI kJ K L f) (hh : isr K L 2 h) (hT : TIE K L f h fS fC fF fR fW A rho) (hZ : CZ K L f h ow ll pa) (e2 : f2 = (ks_set f h s w x).1) : (ks_set f h s w x).2 = rs_set fS fC s w ∧ TIE K L f2 h fS fC (rw_set fS fC fF s w x) fR fW A rho ∧ CZ K L f2 h ow ll pa := by
  unfold ks_set at e2 ⊢
  unfold rs_set rw_set
  by_cases hp : (0 ≤ s.toInt ∧ s.toInt < 12) ∧ (0 ≤ w.toInt ∧ w.toInt < 17 ∧ ¬ w.toInt = 8 ∧ ¬ w.toInt = 9 ∧ ¬ w.toInt = 11 ∧ ¬ w.toInt = 15)
  · rw [if_pos hp] at e2
    rw [if_pos hp, if_pos hp, if_pos hp]
    have hcw := clamp_int hp.2.1
    rcases hT.sl hp.1 with ⟨a1, a2⟩ | ⟨a1, a2, a3⟩
    · rw [a2] at e2 ⊢
      rw [if_pos a1, if_pos a1, e2]
      exact ⟨rfl, hT, hZ⟩
    · rw [a2] at e2 ⊢
      rw [if_neg a1, if_neg a1]
      obtain ⟨c1, c2⟩ := hT.cn a3
      generalize he : Int32.toNatClampNeg (fS (Int32.toNatClampNeg s)) = o at *
      simp only [c1] at e2 ⊢
      by_cases hq : hs (fC o).toInt w.toInt = true
      · rw [if_pos ((own_has c2 (by omega)).mpr hq)] at e2
        rw [if_pos ((own_has c2 (by omega)).mpr hq), if_pos (hs_iff.mp hq), if_pos (hs_iff.mp hq)]
        by_cases hf : w.toInt = 13 ∨ w.toInt = 16
        · rw [if_pos hf] at e2
          rw [if_pos hf, if_pos hf, if_pos hf, e2]
          exact ⟨rfl, hT, hZ⟩
        · rw [if_neg hf] at e2
          rw [if_neg hf, if_neg hf, if_neg hf]
          have hx := (hT.2.2.1 o a3).2.1
          obtain ⟨u1, u2, u3, u4, u5, u6⟩ := vl_up hPI hZ.1 hx e2
          refine ⟨rfl, ?_, hZ.fr hPI hh u1 rfl rfl rfl rfl rfl⟩
          rw [val_is hp.2]
          exact tie_val hT a3 (by omega) (by unfold lkf; omega) (by omega) (by rw [hcw]; exact hq) (sl_fr hPI hh u1 rfl rfl) u2 u3 u4 u5 u6
      · rw [if_neg (mt (own_has c2 (by omega)).mp hq)] at e2
        rw [if_neg (mt (own_has c2 (by omega)).mp hq), if_neg (mt hs_iff.mpr hq), if_neg (mt hs_iff.mpr hq), e2]
        exact ⟨rfl, hT, hZ⟩
  · rw [if_neg hp] at e2
    rw [if_neg hp, if_neg hp, if_neg hp, e2]
    exact ⟨rfl, hT, hZ⟩
theorem CZ.s1 (hPI : PI kT kI kJ K L f) (hh : isr K L 2 h) {y : Nat} (hy : isr K L 1 y) (ho : ∀ t, ¬ t = y → f2 t = f t) (e1 : cP (f2 y) 1 = cP (f y) 1) (e5 : ∀ r, cR (f2 y) 5 = some r → cR (f y) 5 = some r) (hZ : CZ K L f h ow ll pa) : CZ K L f2 h ow ll pa := by
  obtain ⟨z1, z2, z3, z4⟩ := hZ
  have eK : ∀ k a, isr K L k a → ¬ k = 1 → f2 a = f a := fun k a ha hk => ho a (isr_ne ha hy hk)
  have eh := eK 2 h hh (by decide)
  have hfr : FR (sK [1]) K L f f2 := fun a ha hk => ho a (fun q => by rw [q, hy.2] at hk; cases hk)
  refine ⟨⟨fun b hb => by rw [eK 0 b hb (by decide)]; exact z1.1 b hb, fun b hb => ?_⟩, ?_, ?_, ?_⟩
  · by_cases e : b = y
    · subst e
      rw [e1]
      exact ⟨(z1.2 b hb).1, fun r hr => (z1.2 b hb).2 r (e5 r hr)⟩
    · rw [ho b e]
      exact z1.2 b hb
  · rw [eh]; exact ls_fr hPI hfr rfl rfl rfl (ob_c1r hPI hh).1 z2
  · rw [eh]; exact z3
  · rw [eh]; exact z4
theorem ov_s1 {y b : Nat} (hPI : PI kT kI kJ K L f) (hy : isr K L 1 y) (ho : ∀ t, ¬ t = y → f2 t = f t) (hb : isr K L 1 b) (hne : ¬ b = y) : OV f f2 b := ov_of (ho b hne) (ho _ (isr_ne (ow_pv hPI hb) hy (by decide))) (fun r hr => ho r (isr_ne (ow_pi hPI hb hr) hy (by decide)))
theorem call_link (hrS : rgS fS) (hPI : PI kT kI kJ K L f) (hh : isr K L 2 h) (hT : TIE K L f h fS fC fF fR fW A rho) (hZ : CZ K L f h ow ll pa) (e2 : f2 = (ks_link f h s w t).1) : (ks_link f h s w t).2 = rs_link fS fC s w t ∧ TIE K L f2 h fS fC (rw_link fS fC fF s w t) fR fW A rho ∧ CZ K L f2 h ow ll pa := by
  unfold ks_link at e2 ⊢
  unfold rs_link rw_link
  by_cases hp : (0 ≤ s.toInt ∧ s.toInt < 12) ∧ (w.toInt = 8 ∨ w.toInt = 11 ∨ w.toInt = 15) ∧ (0 ≤ t.toInt ∧ t.toInt < 12)
  · rw [if_pos hp] at e2
    rw [if_pos hp, if_pos hp, if_pos hp]
    have hcw := clamp_int (i := w) (by omega)
    have hct := clamp_int hp.2.2.1
    have hw17 : 0 ≤ w.toInt ∧ w.toInt < 17 := by omega
    have key : ∀ o, A o → hs (fC o).toInt w.toInt = true → (∀ b, r_ob (fS (Int32.toNatClampNeg t)) = some b → mayI (fC b).toInt w.toInt) → f2 = ks_hold f (rho o) w (g_sl f h (Int32.toNatClampNeg t)) → TIE K L f2 h fS fC (vp_updL fF (17 * o + Int32.toNatClampNeg w) (fS (Int32.toNatClampNeg t)).toInt64) fR fW A rho ∧ CZ K L f2 h ow ll pa := fun o ho hq hm e => by
      have hx := (hT.2.2.1 o ho).2.1
      obtain ⟨u1, u2, u3, u4, u5, u6, u7, u8⟩ := lk_up hp.2.1 hPI hx e
      have ht1 := hT.1 (Int32.toNatClampNeg t) (by omega)
      have hrt := hrS (Int32.toNatClampNeg t) (by omega)
      have h64 := Int32.toInt_toInt64 (fS (Int32.toNatClampNeg t))
      have ey : r_ob (fS (Int32.toNatClampNeg t)) = if (fS (Int32.toNatClampNeg t)).toInt64.toInt = -1 then none else some (fS (Int32.toNatClampNeg t)).toInt64.toInt.toNat := by
        rw [h64]
        unfold r_ob
        rfl
      have ew : Int32.toNatClampNeg w = w.toInt.toNat := rfl
      refine ⟨?_, hZ.s1 hPI hh hx u2 u7 (fun r hr => by rw [← u8]; exact hr)⟩
      rw [ew]
      exact tie_link hT ho hp.2.1 hq ey (fun b hb => ⟨hT.2.1 _ b (by omega) hb, hm b hb⟩) (sl_fr hPI hh u1 rfl rfl) (fun b hb hne => ov_s1 hPI hx u2 hb hne) u3 u4 (fun u => by rw [u5, ht1]) u6
    rcases hT.sl hp.1 with ⟨a1, a2⟩ | ⟨a1, a2, a3⟩
    · rcases hT.sl hp.2.2 with ⟨b1, b2⟩ | ⟨b1, b2, b3⟩
      · rw [a2, b2] at e2
        rw [a2, b2, if_neg (by omega), if_pos a1, if_neg (by omega), if_pos a1, e2]
        exact ⟨rfl, hT, hZ⟩
      · rw [a2, b2] at e2
        rw [a2, b2]
        obtain ⟨d1, d2⟩ := hT.cn b3
        generalize he : Int32.toNatClampNeg (fS (Int32.toNatClampNeg t)) = b at *
        simp only [d1] at e2 ⊢
        by_cases hm : mayI (fC b).toInt w.toInt
        · have hm2 := hm
          unfold mayI at hm2
          rw [if_pos ((wan_may d2 hp.2.1).mpr hm)] at e2
          rw [if_pos ((wan_may d2 hp.2.1).mpr hm), if_neg (fun q => q.elim (fun q => q.1 a1) (fun q => q.2 hm2)), if_pos a1, if_neg (fun q => q.elim (fun q => q.1 a1) (fun q => q.2 hm2)), if_pos a1, e2]
          exact ⟨rfl, hT, hZ⟩
        · have hm2 := hm
          unfold mayI at hm2
          rw [if_neg (mt (wan_may d2 hp.2.1).mp hm)] at e2
          rw [if_neg (mt (wan_may d2 hp.2.1).mp hm), if_pos (Or.inr ⟨b1, hm2⟩), if_pos (Or.inr ⟨b1, hm2⟩), e2]
          exact ⟨rfl, hT, hZ⟩
    · obtain ⟨c1, c2⟩ := hT.cn a3
      rcases hT.sl hp.2.2 with ⟨b1, b2⟩ | ⟨b1, b2, b3⟩
      · rw [a2, b2] at e2
        rw [a2, b2]
        rw [b2] at key
        generalize he : Int32.toNatClampNeg (fS (Int32.toNatClampNeg s)) = o at *
        simp only [c1] at e2 ⊢
        by_cases hq : hs (fC o).toInt w.toInt = true
        · rw [if_pos ((own_has c2 hw17).mpr hq)] at e2
          rw [if_pos ((own_has c2 hw17).mpr hq), if_neg (fun q => q.elim (fun q => q.2 (hs_iff.mp hq)) (fun q => q.1 b1)), if_neg a1, if_neg (fun q => q.elim (fun q => q.2 (hs_iff.mp hq)) (fun q => q.1 b1)), if_neg a1]
          exact ⟨rfl, key o a3 hq (fun b hb => by rw [r_ob_none b1] at hb; cases hb) e2⟩
        · rw [if_neg (mt (own_has c2 hw17).mp hq)] at e2
          rw [if_neg (mt (own_has c2 hw17).mp hq), if_pos (Or.inl ⟨a1, mt hs_iff.mpr hq⟩), if_pos (Or.inl ⟨a1, mt hs_iff.mpr hq⟩), e2]
          exact ⟨rfl, hT, hZ⟩
      · obtain ⟨d1, d2⟩ := hT.cn b3
        rw [a2, b2] at e2
        rw [a2, b2]
        rw [b2, r_ob_some b1] at key
        generalize he : Int32.toNatClampNeg (fS (Int32.toNatClampNeg s)) = o at *
        generalize hb : Int32.toNatClampNeg (fS (Int32.toNatClampNeg t)) = b at *
        simp only [c1, d1] at e2 ⊢
        by_cases hq : hs (fC o).toInt w.toInt = true
        · rw [if_pos ((own_has c2 hw17).mpr hq)] at e2
          rw [if_pos ((own_has c2 hw17).mpr hq)]
          by_cases hm : mayI (fC b).toInt w.toInt
          · have hm2 := hm
            unfold mayI at hm2
            rw [if_pos ((wan_may d2 hp.2.1).mpr hm)] at e2
            rw [if_pos ((wan_may d2 hp.2.1).mpr hm), if_neg (fun q => q.elim (fun q => q.2 (hs_iff.mp hq)) (fun q => q.2 hm2)), if_neg a1, if_neg (fun q => q.elim (fun q => q.2 (hs_iff.mp hq)) (fun q => q.2 hm2)), if_neg a1]
            exact ⟨rfl, key o a3 hq (fun b9 hb9 => by cases hb9; exact hm) e2⟩
          · have hm2 := hm
            unfold mayI at hm2
            rw [if_neg (mt (wan_may d2 hp.2.1).mp hm)] at e2
            rw [if_neg (mt (wan_may d2 hp.2.1).mp hm), if_pos (Or.inr ⟨b1, hm2⟩), if_pos (Or.inr ⟨b1, hm2⟩), e2]
            exact ⟨rfl, hT, hZ⟩
        · rw [if_neg (mt (own_has c2 hw17).mp hq)] at e2
          rw [if_neg (mt (own_has c2 hw17).mp hq), if_pos (Or.inl ⟨a1, mt hs_iff.mpr hq⟩), if_pos (Or.inl ⟨a1, mt hs_iff.mpr hq⟩), e2]
          exact ⟨rfl, hT, hZ⟩
  · rw [if_neg hp] at e2
    rw [if_neg hp, if_neg hp, if_neg hp, e2]
    exact ⟨rfl, hT, hZ⟩
theorem call_follow (hrF : rgF fF) (hPI : PI kT kI kJ K L f) (hh : isr K L 2 h) (hT : TIE K L f h fS fC fF fR fW A rho) (hZ : CZ K L f h ow ll pa) (e2 : f2 = (ks_follow f h s w t).1) : (ks_follow f h s w t).2 = rs_follow fS fC s w t ∧ TIE K L f2 h (rw_follow fS fC fF s w t) fC fF fR fW A rho ∧ CZ K L f2 h ow ll pa := by
  unfold ks_follow at e2 ⊢
  unfold rs_follow rw_follow
  by_cases hp : (0 ≤ s.toInt ∧ s.toInt < 12) ∧ (w.toInt = 8 ∨ w.toInt = 11 ∨ w.toInt = 15) ∧ (0 ≤ t.toInt ∧ t.toInt < 12)
  · rw [if_pos hp] at e2
    rw [if_pos hp, if_pos hp, if_pos hp]
    have hw17 : 0 ≤ w.toInt ∧ w.toInt < 17 := by omega
    have hcw := clamp_int (i := w) (by omega)
    rcases hT.sl hp.1 with ⟨a1, a2⟩ | ⟨a1, a2, a3⟩
    · rw [a2] at e2 ⊢
      rw [if_pos a1, if_pos a1, e2]
      exact ⟨rfl, hT, hZ⟩
    · rw [a2] at e2 ⊢
      rw [if_neg a1, if_neg a1]
      obtain ⟨c1, c2⟩ := hT.cn a3
      generalize he : Int32.toNatClampNeg (fS (Int32.toNatClampNeg s)) = o at *
      simp only [c1] at e2 ⊢
      by_cases hq : hs (fC o).toInt w.toInt = true
      · rw [if_pos ((own_has c2 hw17).mpr hq)] at e2
        rw [if_pos ((own_has c2 hw17).mpr hq), if_pos (hs_iff.mp hq), if_pos (hs_iff.mp hq)]
        obtain ⟨u1, u2⟩ := sl_up hPI hh e2
        have hol := (hT.2.2.1 o a3).1
        have hr := hrF o (Int32.toNatClampNeg w) hol (by omega)
        have el : r_lk fC fF o w.toInt = r_ob (fF (17 * o + Int32.toNatClampNeg w)).toInt32 := by
          rw [r_lk_of hp.2.1 hq, show w.toInt.toNat = Int32.toNatClampNeg w from rfl]
          have e3 : (fF (17 * o + Int32.toNatClampNeg w)).toInt32.toInt = (fF (17 * o + Int32.toNatClampNeg w)).toInt := l2i_sm rfl (by omega) (by omega)
          unfold r_ob
          rw [e3]
          show _ = if _ then none else some ((fF (17 * o + Int32.toNatClampNeg w)).toInt32.toInt.toNat)
          rw [e3]
        exact ⟨rfl, tie_slot hT (by rw [u2, hT.lk a3, el]) (fun b hb => (hT.2.2.2.1 o w.toInt b a3 (by rw [el]; exact hb)).1) (fun t ht => ov_fr hPI u1 rfl rfl rfl ht), hZ.s5 hPI hh u1⟩
      · rw [if_neg (mt (own_has c2 hw17).mp hq)] at e2
        rw [if_neg (mt (own_has c2 hw17).mp hq), if_neg (mt hs_iff.mpr hq), if_neg (mt hs_iff.mpr hq), e2]
        exact ⟨rfl, hT, hZ⟩
  · rw [if_neg hp] at e2
    rw [if_neg hp, if_neg hp, if_neg hp, e2]
    exact ⟨rfl, hT, hZ⟩
end CALLS

