-- CALL BY CALL, third part: leaves, leaf, alter, equal
section CALLS3
variable {kT kI kJ : ClassId} {K : Nat → Nat} {L : List Nat} {f f1 f2 : Nat → va_E} {h y : Nat} {fS fC : Nat → Int32} {fF : Nat → Int64} {fR fW lo ld lo2 ld2 : Nat → Int32} {lv lv2 : Nat → Int64} {A : Nat → Prop} {rho : Nat → Nat} {s t k w r r2 lm lm2 : Int32} {v : Int64} {ow : Nat → Nat} {ll : List (Int32 × Int32 × Int64)} {pa : Int32}
theorem tf_ov (hPI : PI kT kI kJ K L f) (hc : ∀ a k, isr K L k a → ¬ k = 0 ∧ ¬ k = 7 ∧ ¬ k = 8 ∧ ¬ k = 2 ∧ ¬ k = 6 → f2 a = f a) {t : Nat} (ht : isr K L 1 t) : OV f f2 t := ov_of (hc t 1 ht (by decide)) (hc _ 3 (ow_pv hPI ht) (by decide)) (fun r hr => hc r 4 (ow_pi hPI ht hr) (by decide))
theorem tf_sl (hPI : PI kT kI kJ K L f) (hh : isr K L 2 h) (hc : ∀ a k, isr K L k a → ¬ k = 0 ∧ ¬ k = 7 ∧ ¬ k = 8 ∧ ¬ k = 2 ∧ ¬ k = 6 → f2 a = f a) (hp : cP (f2 h) 0 = cP (f h) 0) : g_sl f2 h = g_sl f h := by
  unfold g_sl
  rw [hp, hc _ 5 (ob_c1r hPI hh).2.2.2 (by decide)]
/-- the cells of a list that was not told into -/
theorem tf_ls {x : Nat} (hPI : PI kT kI kJ K L f) (hO : OWN K L f ow) (hy : isr K L 0 y) (hx : isr K L 0 x) (hne : ¬ x = y) {f0 : Nat → va_E} (hT : TF K L ow y h f0 f2) : ∀ a, a = x ∨ a = cP (f x) 0 ∨ a = cP (f x) 1 ∨ a = cP (f x) 2 → f2 a = f0 a := by
  obtain ⟨a, b, c, z, e, ha, hb, hc, hz⟩ := hPI.a0 hx
  have o := hO.1 x hx
  rw [li_pn e, li_pd e, li_pv e] at o ⊢
  have key : ∀ (q k : Nat), isr K L k q → (k = 0 → ¬ q = y) → (k = 7 → ¬ (ow q = 2 * y ∨ ow q = 2 * y + 1)) → (k = 8 → ¬ ow q = y) → ¬ k = 2 → ¬ k = 6 → f2 q = f0 q := fun q k hq h0 h7 h8 h2 h6 => hT.1 q hq.1 (fun hn => by
    rcases hn with e | ⟨e, w⟩ | ⟨e, w⟩
    · by_cases hk : k = 0
      · exact h0 hk e
      · exact isr_ne hq hy hk e
    · rw [hq.2] at e; exact h7 e w
    · rw [hq.2] at e; exact h8 e w) (by rw [hq.2]; exact h2) (by rw [hq.2]; exact h6)
  intro q hq
  rcases hq with e1 | e1 | e1 | e1
  · rw [e1]
    exact key x 0 hx (fun _ => hne) (fun h9 => by cases h9) (fun h9 => by cases h9) (by decide) (by decide)
  · rw [e1]
    exact key a 7 ha (fun h9 => by cases h9) (fun _ => by omega) (fun h9 => by cases h9) (by decide) (by decide)
  · rw [e1]
    exact key b 7 hb (fun h9 => by cases h9) (fun _ => by omega) (fun h9 => by cases h9) (by decide) (by decide)
  · rw [e1]
    exact key c 8 hc (fun h9 => by cases h9) (fun h9 => by cases h9) (fun _ => by omega) (by decide) (by decide)
theorem ls_same {x : Nat} (hc : ∀ a, a = x ∨ a = cP (f x) 0 ∨ a = cP (f x) 1 ∨ a = cP (f x) 2 → f2 a = f a) (hl : LSt f x ll) : LSt f2 x ll := by
  have e0 := hc x (Or.inl rfl)
  unfold LSt l_z l_n l_d l_v at hl ⊢
  rw [e0, hc _ (Or.inr (Or.inl rfl)), hc _ (Or.inr (Or.inr (Or.inl rfl))), hc _ (Or.inr (Or.inr (Or.inr rfl)))]
  exact hl
/-- a telling into another list -/
theorem cz_tf (hPI : PI kT kI kJ K L f) (hh : isr K L 2 h) (hZ : CZ K L f h ow ll pa) (hy : isr K L 0 y) (hne : ¬ cP (f h) 2 = y) (hT : TF K L ow y h f f2) : CZ K L f2 h ow ll pa := by
  obtain ⟨z1, z2, z3, z4⟩ := hZ
  obtain ⟨p0, p1, p2, p3, p4, p5, p7, p8⟩ := hT.2.2
  refine ⟨hT.own hy z1, ?_, p1.trans z3, by rw [p2, p3, p4]; exact z4⟩
  rw [p2]
  exact ls_same (tf_ls hPI z1 hy (ob_c1r hPI hh).1 hne hT) z2
theorem tie_tf (hPI : PI kT kI kJ K L f) (hh : isr K L 2 h) (hT0 : TIE K L f h fS fC fF fR fW A rho) (hy : isr K L 0 y) (hT : TF K L ow y h f f2) : TIE K L f2 h fS fC fF fR fW A rho := by
  have hc : ∀ a k, isr K L k a → ¬ k = 0 ∧ ¬ k = 7 ∧ ¬ k = 8 ∧ ¬ k = 2 ∧ ¬ k = 6 → f2 a = f a := fun a k ha hk => hT.at hy ha hk
  exact hT0.mp EXT.rf (fun j _ => by rw [tf_sl hPI hh hc hT.2.2.1]) (fun t ht => tf_ov hPI hc ht)
/-- the lists change places -/
theorem swap_up {c1 c2 : Nat} (hPI2 : PI kT kI kJ K L f2) (hh : isr K L 2 h) (e2 : f2 = s_F (s_F f h 2 (.ref c2)) h 3 (.ref c1)) : FR (sK [2]) K L f f2 ∧ cP (f2 h) 0 = cP (f h) 0 ∧ cI (f2 h) 1 = cI (f h) 1 ∧ cP (f2 h) 2 = c2 ∧ cP (f2 h) 3 = c1 ∧ cP (f2 h) 4 = cP (f h) 4 := by
  obtain ⟨q1, pc, d1, d2, d3, q5, fc, q7, mc, e, h1, h2, h3, h4, h5, h6, h7, h8⟩ := hPI2.a2 hh
  have hfr : FR (sK [2]) K L f f2 := fun a ha hk => by
    have hn : a ≠ h := fun q => by rw [q, hh.2] at hk; cases hk
    rw [e2]
    unfold s_F
    rw [va_up_ne _ _ hn, va_up_ne _ _ hn]
  cases ef : f h with
  | inl x =>
    exfalso
    have e3 : f2 h = .inl x := by
      rw [e2]
      unfold s_F
      rw [va_up_self, va_up_self, ef]
    rw [e3] at e
    cases e
  | inr x =>
    obtain ⟨c, l⟩ := x
    have e3 : f2 h = .inr (c, (l.set 2 (.ref c2)).set 3 (.ref c1)) := by
      rw [e2]
      unfold s_F
      rw [va_up_self, va_up_self, ef]
    have e4 := e3.symm.trans e
    injection e4 with e4
    injection e4 with ec el
    have hlen : l.length = 9 := by
      have := congrArg List.length el
      simpa using this
    have g : ∀ i, ¬ i = 2 → ¬ i = 3 → ((l.set 2 (.ref c2)).set 3 (.ref c1))[i]? = l[i]? := fun i n2 n3 => by
      rw [List.getElem?_set_ne (fun q => n3 q.symm), List.getElem?_set_ne (fun q => n2 q.symm)]
    refine ⟨hfr, ?_, ?_, ?_, ?_, ?_⟩
    · unfold cP cR
      rw [e3]
      simp only [g 0 (by decide) (by decide)]
    · unfold cI
      rw [e3]
      simp only [g 1 (by decide) (by decide)]
    · unfold cP cR
      rw [e3]
      simp only [List.getElem?_set_ne (show 3 ≠ 2 by decide), List.getElem?_set_self (show 2 < l.length by omega)]
      rfl
    · unfold cP cR
      rw [e3]
      simp only [List.getElem?_set_self (show 3 < (l.set 2 (.ref c2)).length by rw [List.length_set]; omega)]
      rfl
    · unfold cP cR
      rw [e3]
      simp only [g 4 (by decide) (by decide)]
theorem call_leaves (hrR : rgR fR) (hPI : PI kT kI kJ K L f) (hh : isr K L 2 h) (hT : TIE K L f h fS fC fF fR fW A rho) (hZ : CZ K L f h ow ll pa) (hPI2 : PI kT kI kJ K L f2) (hL : LSv lm lo ld lv ll) (hW : WF ll) (h1 : ks_lv f h s r) (h2 : ks_lvh K L ow f h s f2) (g1 : rs_leaves fS fC fF fR fW s r2) (g2 : rv_leaves fS fC fF fR fW lo ld lv lm s lo2 ld2 lv2 lm2) : r = r2 ∧ TIE K L f2 h fS fC fF fR fW A rho ∧ ∃ l2, CZ K L f2 h ow l2 pa ∧ LSv lm2 lo2 ld2 lv2 l2 ∧ WF l2 := by
  unfold ks_lv at h1
  unfold ks_lvh at h2
  unfold rs_leaves at g1
  unfold rv_leaves at g2
  obtain ⟨i1, i2, i3, i5⟩ := ob_c1r hPI hh
  by_cases hp : 0 ≤ s.toInt ∧ s.toInt < 12
  · rw [if_pos hp] at h1 h2 g1
    rcases hT.sl hp with ⟨a1, a2⟩ | ⟨a1, a2, a3⟩
    · rw [a2] at h1 h2
      rw [if_pos a1] at g1
      rw [if_neg (fun q => q.2 a1)] at g2
      obtain ⟨rfl, rfl, rfl, rfl⟩ := g2
      have h2 : f2 = f := h2
      rw [h2]
      exact ⟨h1.trans g1.symm, hT, ll, hZ, hL, hW⟩
    · rw [a2] at h1 h2
      rw [if_neg a1] at g1
      rw [if_pos ⟨hp, a1⟩] at g2
      have e := tie_tlS hT a3
      simp only [e] at h1 h2
      cases et : tlS (-4) fC (r_vl fC fF) (r_lk fC fF) (r_rw fC fR fW) (Int32.toNatClampNeg (fS (Int32.toNatClampNeg s))) with
      | none =>
        rw [et] at h1 h2 g1 g2
        obtain ⟨rfl, rfl, rfl, rfl⟩ := g2
        exact ⟨h1.trans g1.symm, tie_tf hPI hh hT i2 h2, ll, cz_tf hPI hh hZ i2 hZ.2.2.2.1 h2, hL, hW⟩
      | some l2 =>
        rw [et] at h1 h2 g1 g2
        obtain ⟨f1, t1, t2, t3⟩ := h2
        have hc : ∀ a k, isr K L k a → ¬ k = 0 ∧ ¬ k = 7 ∧ ¬ k = 8 ∧ ¬ k = 2 ∧ ¬ k = 6 → f1 a = f a := fun a k ha hk => t1.at i2 ha hk
        obtain ⟨p0, p1, p2, p3, p4, p5, p7, p8⟩ := t1.2.2
        obtain ⟨u1, u2, u3, u4, u5, u6⟩ := swap_up hPI2 hh t3
        have hc2 : ∀ a k, isr K L k a → ¬ k = 0 ∧ ¬ k = 7 ∧ ¬ k = 8 ∧ ¬ k = 2 ∧ ¬ k = 6 → f2 a = f a := fun a k ha hk => (u1 a ha.1 (by
          rw [ha.2]
          show List.contains [2] k = false
          simp [hk.2.2.2.1])).trans (hc a k ha hk)
        have hTl : TIE K L f2 h fS fC fF fR fW A rho := hT.mp EXT.rf (fun j _ => by rw [tf_sl hPI hh hc2 (u2.trans p0)]) (fun t ht => tf_ov hPI hc2 ht)
        have hO1 := t1.own i2 hZ.1
        refine ⟨Int32.toInt_inj.mp (h1.trans g1.symm), hTl, l2, ⟨own_fr u1 rfl rfl hO1, ?_, u3.trans (p1.trans hZ.2.2.1), ?_⟩, g2, wf_tlS hrR hT a3 et⟩
        · rw [u4]
          obtain ⟨a, b, c, z, e5, ha, hb, hcc, hz⟩ := hPI.a0 i2
          refine ls_same (fun q hq => ?_) t2
          have k7 : ∀ k q, isr K L k q → ¬ k = 2 → f2 q = f1 q := fun k q hq hk => u1 q hq.1 (by
            rw [hq.2]
            show List.contains [2] k = false
            simp [hk])
          have e6 := t1.2.1
          rw [e6.1, e6.2.1, e6.2.2, li_pn e5, li_pd e5, li_pv e5] at hq
          rcases hq with e7 | e7 | e7 | e7
          · rw [e7]; exact k7 0 _ i2 (by decide)
          · rw [e7]; exact k7 7 _ ha (by decide)
          · rw [e7]; exact k7 7 _ hb (by decide)
          · rw [e7]; exact k7 8 _ hcc (by decide)
        · rw [u4, u5, u6, p4]
          exact ⟨fun q => hZ.2.2.2.1 q.symm, hZ.2.2.2.2.2, hZ.2.2.2.2.1⟩
  · rw [if_neg hp] at h1 h2 g1
    rw [if_neg (fun q => hp q.1)] at g2
    obtain ⟨rfl, rfl, rfl, rfl⟩ := g2
    rw [h2]
    exact ⟨h1.trans g1.symm, hT, ll, hZ, hL, hW⟩
theorem call_equal (hPI : PI kT kI kJ K L f) (hh : isr K L 2 h) (hT : TIE K L f h fS fC fF fR fW A rho) (hZ : CZ K L f h ow ll pa) (h1 : ∃ f1, TF K L ow (cP (f h) 3) h f f1 ∧ TF K L ow (cP (f h) 4) h f1 f2) : TIE K L f2 h fS fC fF fR fW A rho ∧ CZ K L f2 h ow ll pa := by
  obtain ⟨f1, t1, t2⟩ := h1
  obtain ⟨i1, i2, i3, i5⟩ := ob_c1r hPI hh
  have hc : ∀ a k, isr K L k a → ¬ k = 0 ∧ ¬ k = 7 ∧ ¬ k = 8 ∧ ¬ k = 2 ∧ ¬ k = 6 → f2 a = f a := fun a k ha hk => (t2.at i3 ha hk).trans (t1.at i2 ha hk)
  obtain ⟨p0, p1, p2, p3, p4, p5, p7, p8⟩ := t1.2.2.tr t2.2.2
  obtain ⟨z1, z2, z3, z4, z5, z6⟩ := hZ
  refine ⟨hT.mp EXT.rf (fun j _ => by rw [tf_sl hPI hh hc p0]) (fun t ht => tf_ov hPI hc ht), t2.own i3 (t1.own i2 z1), ?_, p1.trans z3, by rw [p2, p3, p4]; exact ⟨z4, z5, z6⟩⟩
  rw [p2]
  exact ls_same (fun a ha => (tf_ls hPI z1 i3 i1 z5 t2 a ha).trans (tf_ls hPI z1 i2 i1 z4 t1 a ha)) z2
theorem LSv.set {n d : Nat → Int32} {x : Nat → Int64} {j : Nat} {a b : Int32} {c : Int64} (hL : LSv lm n d x ll) (hj : ll[j]? = some (a, b, c)) : LSv lm n d (vp_updL x j v) (ll.set j (a, b, v)) := by
  refine ⟨by rw [List.length_set]; exact hL.1, fun i a2 b2 c2 h2 => ?_⟩
  by_cases ei : i = j
  · subst ei
    have hlt := (List.getElem?_eq_some_iff.mp hj).1
    rw [List.getElem?_set_self hlt] at h2
    cases h2
    have := hL.2 i a b c hj
    exact ⟨this.1, this.2.1, pk_uLs⟩
  · rw [List.getElem?_set_ne (fun q => ei q.symm)] at h2
    have := hL.2 i a2 b2 c2 h2
    rw [pk_uLn ei]
    exact this
theorem call_alter (hPI : PI kT kI kJ K L f) (hh : isr K L 2 h) (hT : TIE K L f h fS fC fF fR fW A rho) (hZ : CZ K L f h ow ll pa) (hL : LSv lm lo ld lv ll) (hW : WF ll) (e2 : f2 = (ks_alter f h k v).1) : (ks_alter f h k v).2 = rs_alter lm ld k ∧ TIE K L f2 h fS fC fF fR fW A rho ∧ ∃ l2, CZ K L f2 h ow l2 pa ∧ LSv lm lo ld (rw_alter lm ld lv k v) l2 ∧ WF l2 := by
  obtain ⟨i1, i2, i3, i5⟩ := ob_c1r hPI hh
  have hz : (l_z f (cP (f h) 2)).toInt = lm.toInt := hZ.2.1.1.trans hL.1.symm
  unfold ks_alter at e2 ⊢
  unfold rs_alter rw_alter
  by_cases hk : 0 ≤ k.toInt ∧ k.toInt < lm.toInt
  · have a1 := hL.at hk.1 hk.2
    have a2 := LSv.at hZ.2.1 hk.1 (by omega)
    have e3 := a2.symm.trans a1
    injection e3 with e3
    injection e3 with e4 e5
    injection e5 with e5 e6
    rw [e5] at e2 ⊢
    by_cases hp : (0 ≤ k.toInt ∧ k.toInt < lm.toInt) ∧ ¬ (ld (Int32.toNatClampNeg k)).toInt = -1 ∧ ¬ (ld (Int32.toNatClampNeg k)).toInt = 9
    · have hp2 : (0 ≤ k.toInt ∧ k.toInt < (l_z f (cP (f h) 2)).toInt) ∧ ¬ (ld (Int32.toNatClampNeg k)).toInt = -1 ∧ ¬ (ld (Int32.toNatClampNeg k)).toInt = 9 := by rw [hz]; exact hp
      rw [if_pos hp2] at e2
      rw [if_pos hp2, if_pos hp, if_pos hp]
      obtain ⟨u1, u2⟩ := al_up hPI hZ.1 i1 hZ.2.1 a1 e2
      have eh := fr_at u1 hh rfl
      refine ⟨rfl, hT.mp EXT.rf (fun j _ => by rw [sl_fr hPI hh u1 rfl rfl]) (fun t ht => ov_fr hPI u1 rfl rfl rfl ht), _, ⟨own_fr u1 rfl rfl hZ.1, by rw [eh]; exact u2, by rw [eh]; exact hZ.2.2.1, by rw [eh]; exact hZ.2.2.2⟩, hL.set a1, wf_alter hW a1 hp.2.1 hp.2.2⟩
    · have hp2 : ¬ ((0 ≤ k.toInt ∧ k.toInt < (l_z f (cP (f h) 2)).toInt) ∧ ¬ (ld (Int32.toNatClampNeg k)).toInt = -1 ∧ ¬ (ld (Int32.toNatClampNeg k)).toInt = 9) := by rw [hz]; exact hp
      rw [if_neg hp2] at e2
      rw [if_neg hp2, if_neg hp, if_neg hp, e2]
      exact ⟨rfl, hT, ll, hZ, hL, hW⟩
  · have hk2 : ¬ (0 ≤ k.toInt ∧ k.toInt < (l_z f (cP (f h) 2)).toInt) := by rw [hz]; exact hk
    rw [if_neg (fun q => hk2 q.1)] at e2
    rw [if_neg (fun q => hk2 q.1), if_neg (fun q => hk q.1), if_neg (fun q => hk q.1), e2]
    exact ⟨rfl, hT, ll, hZ, hL, hW⟩
theorem call_leaf (hZ : CZ K L f h ow ll pa) (hL : LSv lm lo ld lv ll) : ks_leaf (l_z f (cP (f h) 2)) (l_n f (cP (f h) 2)) (l_d f (cP (f h) 2)) (l_v f (cP (f h) 2)) k w = ks_leaf lm lo ld lv k w := by
  have hz : (l_z f (cP (f h) 2)).toInt = lm.toInt := hZ.2.1.1.trans hL.1.symm
  unfold ks_leaf
  rw [hz]
  by_cases hk : 0 ≤ k.toInt ∧ k.toInt < lm.toInt
  · have a1 := hL.at hk.1 hk.2
    have a2 := LSv.at hZ.2.1 hk.1 (by omega)
    have e3 := a2.symm.trans a1
    injection e3 with e3
    injection e3 with e4 e5
    injection e5 with e5 e6
    rw [e4, e5, e6]
  · rw [if_neg (fun q => hk q.1), if_neg (fun q => hk q.1)]
end CALLS3

