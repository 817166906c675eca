-- WHAT STAYS of the class's heap, by what a write touches
def OV (f f2 : Nat → va_E) (t : Nat) : Prop := g_cn f2 t = g_cn f t ∧ g_vl f2 t = g_vl f t ∧ g_lk f2 t = g_lk f t ∧ g_rw f2 t = g_rw f t
/-- the rest of the class's state: who owns a row, the leaves, what passed; three lists apart -/
def CZ (K : Nat → Nat) (L : List Nat) (f : Nat → va_E) (h : Nat) (ow : Nat → Nat) (ll : List (Int32 × Int32 × Int64)) (pa : Int32) : Prop := OWN K L f ow ∧ LSt f (cP (f h) 2) ll ∧ cI (f h) 1 = pa ∧ ¬ cP (f h) 2 = cP (f h) 3 ∧ ¬ cP (f h) 2 = cP (f h) 4 ∧ ¬ cP (f h) 3 = cP (f h) 4
section KEEP
variable {kT kI kJ : ClassId} {K K2 : Nat → Nat} {L L2 : List Nat} {f f2 : Nat → va_E} {h t x y : Nat} {S : Nat → Bool} {ow : Nat → Nat} {ll : List (Int32 × Int32 × Int64)} {pa : Int32}
theorem OV.rf : OV f f t := ⟨rfl, rfl, rfl, rfl⟩
theorem OV.tr {f3 : Nat → va_E} (h1 : OV f f2 t) (h2 : OV f2 f3 t) : OV f f3 t := ⟨h2.1.trans h1.1, h2.2.1.trans h1.2.1, h2.2.2.1.trans h1.2.2.1, h2.2.2.2.trans h1.2.2.2⟩
theorem ov_of (e1 : f2 t = f t) (e3 : f2 (cP (f t) 1) = f (cP (f t) 1)) (e4 : ∀ r, cR (f t) 5 = some r → f2 r = f r) : OV f f2 t := by
  refine ⟨by unfold g_cn; rw [e1], by unfold g_vl; rw [e1, e3], by unfold g_lk; rw [e1], ?_⟩
  unfold g_rw
  rw [e1]
  cases hr : cR (f t) 5 with
  | none => rfl
  | some r =>
    show some (aN (f2 r), aI (f2 r)) = some (aN (f r), aI (f r))
    rw [e4 r hr]
theorem fr_at {k a : Nat} (hfr : FR S K L f f2) (ha : isr K L k a) (hk : S k = false) : f2 a = f a := hfr a ha.1 (by rw [ha.2]; exact hk)
theorem ov_fr (hPI : PI kT kI kJ K L f) (hfr : FR S K L f f2) (h1 : S 1 = false) (h3 : S 3 = false) (h4 : S 4 = false) (ht : isr K L 1 t) : OV f f2 t := ov_of (fr_at hfr ht h1) (fr_at hfr (ow_pv hPI ht) h3) (fun r hr => fr_at hfr (ow_pi hPI ht hr) h4)
theorem ls_fr (hPI : PI kT kI kJ K L f) (hfr : FR S K L f f2) (h0 : S 0 = false) (h7 : S 7 = false) (h8 : S 8 = false) (hy : isr K L 0 y) (hl : LSt f y ll) : LSt f2 y ll := by
  obtain ⟨a, b, c, z, e, ha, hb, hc, hz⟩ := hPI.a0 hy
  unfold LSt l_z l_n l_d l_v at hl ⊢
  rw [li_pn e, li_pd e, li_pv e] at hl
  rw [fr_at hfr hy h0, li_pn e, li_pd e, li_pv e, fr_at hfr ha h7, fr_at hfr hb h7, fr_at hfr hc h8]
  exact hl
theorem own_fr (hfr : FR S K L f f2) (h0 : S 0 = false) (h1 : S 1 = false) (hO : OWN K L f ow) : OWN K L f2 ow := own_same hO (fun y hy => fr_at hfr hy h0) (fun y hy => fr_at hfr hy h1)
theorem ob_c1r (hPI : PI kT kI kJ K L f) (hh : isr K L 2 h) : isr K L 0 (cP (f h) 2) ∧ isr K L 0 (cP (f h) 3) ∧ isr K L 0 (cP (f h) 4) ∧ isr K L 5 (cP (f h) 0) := by
  obtain ⟨q1, pc, c1, c2, c3, q5, fc, q7, mc, e, h1, h2, h3, h4, h5, h6, h7, h8⟩ := hPI.a2 hh
  rw [ob_c1 e, ob_c2 e, ob_c3 e, ob_q1 e]
  exact ⟨h2, h3, h4, h1⟩
theorem CZ.fr (hPI : PI kT kI kJ K L f) (hh : isr K L 2 h) (hfr : FR S K L f f2) (h0 : S 0 = false) (h1 : S 1 = false) (h2 : S 2 = false) (h7 : S 7 = false) (h8 : S 8 = false) (hZ : CZ K L f h ow ll pa) : CZ K L f2 h ow ll pa := by
  obtain ⟨z1, z2, z3, z4⟩ := hZ
  have e := fr_at hfr hh h2
  refine ⟨own_fr hfr h0 h1 z1, ?_, ?_, ?_⟩
  · rw [e]; exact ls_fr hPI hfr h0 h7 h8 (ob_c1r hPI hh).1 z2
  · rw [e]; exact z3
  · rw [e]; exact z4
-- slots
theorem sl_up {k : Nat} {o : Option Nat} (hPI : PI kT kI kJ K L f) (hh : isr K L 2 h) (e2 : f2 = s_R f (cP (f h) 0) k o) : FR (sK [5]) K L f f2 ∧ g_sl f2 h = va_up (g_sl f h) k o := by
  obtain ⟨q1, pc, c1, c2, c3, q5, fc, q7, mc, e, h1, h2, h3, h4, h5, h6, h7, h8⟩ := hPI.a2 hh
  obtain ⟨g, eg, hg⟩ := hPI.a5 h1
  rw [ob_q1 e, s_R_of eg] at e2
  have eh : f2 h = f h := by rw [e2, va_up_ne _ _ (isr_ne hh h1 (by decide))]
  refine ⟨fun a ha hk => ?_, ?_⟩
  · rw [e2]
    refine va_up_ne _ _ (fun q => ?_)
    rw [q, h1.2] at hk
    cases hk
  · rw [ob_sl e eg]
    unfold g_sl
    rw [eh, ob_q1 e, e2, va_up_self]
    rfl
theorem sl_fr (hPI : PI kT kI kJ K L f) (hh : isr K L 2 h) (hfr : FR S K L f f2) (h2 : S 2 = false) (h5 : S 5 = false) : g_sl f2 h = g_sl f h := by
  unfold g_sl
  rw [fr_at hfr hh h2, fr_at hfr (ob_c1r hPI hh).2.2.2 h5]
-- values
theorem vl_up {j : Nat} {v : Int64} (hPI : PI kT kI kJ K L f) (hO : OWN K L f ow) (hx : isr K L 1 x) (e2 : f2 = s_J f (cP (f x) 1) j v) : FR (sK [3]) K L f f2 ∧ (∀ t, isr K L 1 t → ¬ t = x → OV f f2 t) ∧ g_cn f2 x = g_cn f x ∧ g_vl f2 x = vp_updL (g_vl f x) j v ∧ g_lk f2 x = g_lk f x ∧ g_rw f2 x = g_rw f x := by
  obtain ⟨cn, u, b, m, st, i, e, hu, hb, hm, hs, hi⟩ := hPI.a1 hx
  obtain ⟨g, eg⟩ := hPI.a3 hu
  rw [th_pv e, s_J_of eg] at e2
  have eo : ∀ a, a ≠ u → f2 a = f a := fun a ha => by rw [e2, va_up_ne _ _ ha]
  have eK : ∀ k a, isr K L k a → ¬ k = 3 → f2 a = f a := fun k a ha hk => eo a (isr_ne ha hu hk)
  have e1 := eK 1 x hx (by decide)
  refine ⟨fun a ha hk => eo a (fun q => ?_), fun t ht hn => ov_of (eK 1 t ht (by decide)) (eo _ (fun q => ?_)) (fun r hr => eK 4 r (ow_pi hPI ht hr) (by decide)), by unfold g_cn; rw [e1], ?_, by unfold g_lk; rw [e1], ?_⟩
  · rw [q, hu.2] at hk
    cases hk
  · have o1 := (hO.2 t ht).1
    have o2 := (hO.2 x hx).1
    rw [th_pv e] at o2
    rw [q, o2] at o1
    exact hn o1.symm
  · unfold g_vl
    rw [e1, th_pv e, e2, va_up_self, eg]
    rfl
  · unfold g_rw
    rw [e1]
    cases hr : cR (f x) 5 with
    | none => rfl
    | some r =>
      show some (aN (f2 r), aI (f2 r)) = some (aN (f r), aI (f r))
      rw [eK 4 r (ow_pi hPI hx hr) (by decide)]
-- links
theorem lk_up {w : Int32} {o : Option Nat} (hw : w.toInt = 8 ∨ w.toInt = 11 ∨ w.toInt = 15) (hPI : PI kT kI kJ K L f) (hx : isr K L 1 x) (e2 : f2 = ks_hold f x w o) : FR (sK [1]) K L f f2 ∧ (∀ t, ¬ t = x → f2 t = f t) ∧ g_cn f2 x = g_cn f x ∧ g_vl f2 x = g_vl f x ∧ (∀ u, g_lk f2 x u = if u = w.toInt then o else g_lk f x u) ∧ g_rw f2 x = g_rw f x ∧ cP (f2 x) 1 = cP (f x) 1 ∧ cR (f2 x) 5 = cR (f x) 5 := by
  obtain ⟨cn, v, b, m, st, i, e, hv, hb, hm, hs, hi⟩ := hPI.a1 hx
  have ex : ∃ b2 m2 s2, f2 = va_up f x (.inr (1, [.int cn, .ref v, va_rf b2, va_rf m2, va_rf s2, va_rf i])) ∧ ∀ u : Int, (if u = 8 then b2 else if u = 11 then m2 else if u = 15 then s2 else none) = if u = w.toInt then o else if u = 8 then b else if u = 11 then m else if u = 15 then st else none := by
    rw [e2]
    unfold ks_hold
    rcases hw with hw | hw | hw
    · refine ⟨o, m, st, by rw [if_pos hw, s_F_of e]; rfl, fun u => ?_⟩
      rw [hw]
      split <;> rfl
    · refine ⟨b, o, st, by rw [if_neg (by omega), if_pos hw, s_F_of e]; rfl, fun u => ?_⟩
      rw [hw]
      by_cases h8 : u = 8
      · rw [if_pos h8, if_neg (by omega), if_pos h8]
      · rw [if_neg h8]
        (repeat' split) <;> first | rfl | (exfalso; omega) | simp_all
    · refine ⟨b, m, o, by rw [if_neg (by omega), if_neg (by omega), if_pos hw, s_F_of e]; rfl, fun u => ?_⟩
      rw [hw]
      by_cases h8 : u = 8
      · rw [if_pos h8, if_neg (by omega), if_pos h8]
      · rw [if_neg h8]
        by_cases h11 : u = 11
        · rw [if_pos h11, if_neg (by omega), if_neg h8, if_pos h11]
        · rw [if_neg h11]
          (repeat' split) <;> first | rfl | (exfalso; omega) | simp_all
  obtain ⟨b2, m2, s2, e3, hl⟩ := ex
  have eo : ∀ z, z ≠ x → f2 z = f z := fun z hz => by rw [e3, va_up_ne _ _ hz]
  have eK : ∀ k z, isr K L k z → ¬ k = 1 → f2 z = f z := fun k z hz hk => eo z (isr_ne hz hx hk)
  have ex2 : f2 x = .inr (1, [.int cn, .ref v, va_rf b2, va_rf m2, va_rf s2, va_rf i]) := by rw [e3, va_up_self]
  refine ⟨fun a ha hk => eo a (fun q => ?_), eo, by rw [th_cn ex2, th_cn e], ?_, fun u => by rw [th_lk ex2, hl u, th_lk e], ?_, by rw [th_pv ex2, th_pv e], by rw [th_i ex2, th_i e]⟩
  · rw [q, hx.2] at hk
    cases hk
  · unfold g_vl
    rw [th_pv ex2, th_pv e, eK 3 v hv (by decide)]
  · unfold g_rw
    rw [th_i ex2, th_i e]
    cases i with
    | none => rfl
    | some r =>
      show some (aN (f2 r), aI (f2 r)) = some (aN (f r), aI (f r))
      rw [eK 4 r (hi r rfl) (by decide)]
-- a place of a row
theorem rw_up {i : Nat} {v : Int32} {r : Nat × (Nat → Int32)} (hPI : PI kT kI kJ K L f) (hO : OWN K L f ow) (hx : isr K L 1 x) (hr : g_rw f x = some r) (e2 : f2 = s_I f (cP (f x) 5) i v) : FR (sK [4]) K L f f2 ∧ (∀ t, isr K L 1 t → ¬ t = x → OV f f2 t) ∧ g_cn f2 x = g_cn f x ∧ g_vl f2 x = g_vl f x ∧ g_lk f2 x = g_lk f x ∧ g_rw f2 x = some (r.1, upd r.2 i v) := by
  obtain ⟨q, hq, hrq⟩ : ∃ q, cR (f x) 5 = some q ∧ r = (aN (f q), aI (f q)) := by
    unfold g_rw at hr
    cases hc : cR (f x) 5 with
    | none => rw [hc] at hr; cases hr
    | some q => rw [hc] at hr; cases hr; exact ⟨q, rfl, rfl⟩
  have hq4 := ow_pi hPI hx hq
  obtain ⟨n, g, eg, hn⟩ := hPI.a4 hq4
  have ep : cP (f x) 5 = q := by unfold cP; rw [hq]; rfl
  rw [ep, s_I_of eg] at e2
  have eo : ∀ a, a ≠ q → f2 a = f a := fun a ha => by rw [e2, va_up_ne _ _ ha]
  have eK : ∀ k a, isr K L k a → ¬ k = 4 → f2 a = f a := fun k a ha hk => eo a (isr_ne ha hq4 hk)
  have e1 := eK 1 x hx (by decide)
  refine ⟨fun a ha hk => eo a (fun q9 => ?_), fun t ht hn => ov_of (eK 1 t ht (by decide)) (eK 3 _ (ow_pv hPI ht) (by decide)) (fun r2 hr2 => eo r2 (fun q9 => ?_)), by unfold g_cn; rw [e1], by unfold g_vl; rw [e1, eK 3 _ (ow_pv hPI hx) (by decide)], by unfold g_lk; rw [e1], ?_⟩
  · rw [q9, hq4.2] at hk
    cases hk
  · have o1 := (hO.2 t ht).2 r2 hr2
    have o2 := (hO.2 x hx).2 q hq
    rw [q9, o2] at o1
    exact hn o1.symm
  · rw [eg] at hrq
    unfold g_rw
    rw [e1, hq, hrq]
    show some (aN (f2 q), aI (f2 q)) = _
    rw [e2, va_up_self]
    rfl
/-- the row is taken away -/
theorem rw_no (hPI : PI kT kI kJ K L f) (hx : isr K L 1 x) (e2 : f2 = s_F f x 5 (va_rf none)) : FR (sK [1]) K L f f2 ∧ (∀ t, ¬ t = x → f2 t = f t) ∧ g_cn f2 x = g_cn f x ∧ g_vl f2 x = g_vl f x ∧ g_lk f2 x = g_lk f x ∧ g_rw f2 x = none ∧ cP (f2 x) 1 = cP (f x) 1 ∧ cR (f2 x) 5 = none := by
  obtain ⟨cn, v, b, m, st, i, e, hv, hb, hm, hs, hi⟩ := hPI.a1 hx
  have e3 : f2 = va_up f x (.inr (1, [.int cn, .ref v, va_rf b, va_rf m, va_rf st, va_rf none])) := by rw [e2, s_F_of e]; rfl
  have eo : ∀ z, z ≠ x → f2 z = f z := fun z hz => by rw [e3, va_up_ne _ _ hz]
  have eK : ∀ k z, isr K L k z → ¬ k = 1 → f2 z = f z := fun k z hz hk => eo z (isr_ne hz hx hk)
  have ex2 : f2 x = .inr (1, [.int cn, .ref v, va_rf b, va_rf m, va_rf st, va_rf none]) := by rw [e3, va_up_self]
  refine ⟨fun a ha hk => eo a (fun q => ?_), eo, by rw [th_cn ex2, th_cn e], ?_, by funext u; rw [th_lk ex2, th_lk e], th_rw0 ex2, by rw [th_pv ex2, th_pv e], th_i ex2⟩
  · rw [q, hx.2] at hk
    cases hk
  · unfold g_vl
    rw [th_pv ex2, th_pv e, eK 3 v hv (by decide)]
/-- a new row -/
theorem rw_new {j q : Nat} (hPI : PI kT kI kJ K L f) (hx : isr K L 1 x) (hq : q ∉ L) (e2 : f2 = s_F (va_up f q (.inl (kI, j, .inl (fun _ => 0)))) x 5 (va_rf (some q))) : (∀ a, a ∈ L → ¬ a = x → f2 a = f a) ∧ g_cn f2 x = g_cn f x ∧ g_vl f2 x = g_vl f x ∧ g_lk f2 x = g_lk f x ∧ g_rw f2 x = some (j, fun _ => 0) ∧ cP (f2 x) 1 = cP (f x) 1 ∧ cR (f2 x) 5 = some q := by
  obtain ⟨cn, v, b, m, st, i, e, hv, hb, hm, hs, hi⟩ := hPI.a1 hx
  have hqx : x ≠ q := ne_of hx.1 hq
  have e3 : f2 = va_up (va_up f q (.inl (kI, j, .inl (fun _ => 0)))) x (.inr (1, [.int cn, .ref v, va_rf b, va_rf m, va_rf st, va_rf (some q)])) := by
    rw [e2, s_F_of (show va_up f q (.inl (kI, j, .inl (fun _ => 0))) x = _ from by rw [va_up_ne _ _ hqx]; exact e)]
    rfl
  have eo : ∀ z, z ∈ L → ¬ z = x → f2 z = f z := fun z hz hz2 => by rw [e3, va_up_ne _ _ hz2, va_up_ne _ _ (ne_of hz hq)]
  have ex2 : f2 x = .inr (1, [.int cn, .ref v, va_rf b, va_rf m, va_rf st, va_rf (some q)]) := by rw [e3, va_up_self]
  have eq2 : f2 q = .inl (kI, j, .inl (fun _ => 0)) := by rw [e3, va_up_ne _ _ hqx.symm, va_up_self]
  refine ⟨eo, by rw [th_cn ex2, th_cn e], ?_, by funext u; rw [th_lk ex2, th_lk e], th_rw1 ex2 eq2, by rw [th_pv ex2, th_pv e], th_i ex2⟩
  unfold g_vl
  rw [th_pv ex2, th_pv e, eo v hv.1 (isr_ne hv hx (by decide))]
-- what passed
theorem pc_up {v : Int32} (hPI : PI kT kI kJ K L f) (hh : isr K L 2 h) (e2 : f2 = s_F f h 1 (.int v)) : FR (sK [2]) K L f f2 ∧ cI (f2 h) 1 = v ∧ cP (f2 h) 0 = cP (f h) 0 ∧ cP (f2 h) 2 = cP (f h) 2 ∧ cP (f2 h) 3 = cP (f h) 3 ∧ cP (f2 h) 4 = cP (f h) 4 := by
  obtain ⟨q1, pc, c1, c2, c3, q5, fc, q7, mc, e, h1, h2, h3, h4, h5, h6, h7, h8⟩ := hPI.a2 hh
  have e3 : f2 = va_up f h (.inr (2, [.ref q1, .int v, .ref c1, .ref c2, .ref c3, .ref q5, .int fc, .ref q7, .int mc])) := by rw [e2, s_F_of e]; rfl
  have eh : f2 h = .inr (2, [.ref q1, .int v, .ref c1, .ref c2, .ref c3, .ref q5, .int fc, .ref q7, .int mc]) := by rw [e3, va_up_self]
  refine ⟨fun a ha hk => ?_, ob_pc eh, by rw [ob_q1 eh, ob_q1 e], by rw [ob_c1 eh, ob_c1 e], by rw [ob_c2 eh, ob_c2 e], by rw [ob_c3 eh, ob_c3 e]⟩
  rw [e3]
  refine va_up_ne _ _ (fun q => ?_)
  rw [q, hh.2] at hk
  cases hk
-- a leaf's value
theorem al_up {k : Nat} {v : Int64} (hPI : PI kT kI kJ K L f) (hO : OWN K L f ow) (hy : isr K L 0 y) (hl : LSt f y ll) {a b : Int32} {c : Int64} (hk : ll[k]? = some (a, b, c)) (e2 : f2 = s_J f (cP (f y) 2) k v) : FR (sK [8]) K L f f2 ∧ LSt f2 y (ll.set k (a, b, v)) := by
  obtain ⟨n, d, u, z, e, hn, hd, hu, hz⟩ := hPI.a0 hy
  obtain ⟨g, eg⟩ := hPI.a8 hu
  rw [li_pv e, s_J_of eg] at e2
  have eo : ∀ q, q ≠ u → f2 q = f q := fun q hq => by rw [e2, va_up_ne _ _ hq]
  have ey : f2 y = f y := eo y (isr_ne hy hu (by decide))
  refine ⟨fun q hq hk => eo q (fun q9 => ?_), ?_⟩
  · rw [q9, hu.2] at hk
    cases hk
  · unfold LSt l_z l_n l_d l_v at hl ⊢
    rw [li_pn e, li_pd e, li_pv e, eg] at hl
    rw [ey, li_pn e, li_pd e, li_pv e, eo n (isr_ne hn hu (by decide)), eo d (isr_ne hd hu (by decide)), e2, va_up_self]
    refine ⟨by rw [List.length_set]; exact hl.1, fun i a2 b2 c2 h2 => ?_⟩
    show aI (f n) i = a2 ∧ aI (f d) i = b2 ∧ vp_updL g k v i = c2
    by_cases ei : i = k
    · subst ei
      have hlt := (List.getElem?_eq_some_iff.mp hk).1
      rw [List.getElem?_set_self hlt] at h2
      cases h2
      have := hl.2 i a b c hk
      exact ⟨this.1, this.2.1, pk_uLs⟩
    · rw [List.getElem?_set_ne (fun q => ei q.symm)] at h2
      have := hl.2 i a2 b2 c2 h2
      rw [pk_uLn ei]
      exact this
end KEEP

