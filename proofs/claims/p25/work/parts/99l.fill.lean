-- FILLING what was made
theorem va_up_id {α : Type} (g : Nat → α) (a : Nat) : va_up g a (g a) = g := by
  funext i
  by_cases e : i = a
  · rw [e, va_up_self]
  · rw [va_up_ne _ _ e]
section FILL
variable {kT kI kJ : ClassId} {K Kl K2 : Nat → Nat} {L Ll L2 : List Nat} {f fl f2 : Nat → va_E} {ow ow2 : Nat → Nat} {x h q a n : Nat} {qs : Nat → Nat} {cs : Nat → Int32} {V : Nat → Nat → Int64} {N : Nat → Int → Option Nat} {R : Nat → Option (Nat × (Nat → Int32))} {Va : Nat → Int64} {Na : Int → Option Nat} {Ra : Option (Nat × (Nat → Int32))}
theorem mdf_set (hM : MDf K L f h Kl Ll fl ow n qs cs V N R) (hhL : h ∈ L) (hf : ∀ b, b ∈ L → f2 b = fl b) (h7 : f2 (cP (fl h) 7) = fl (cP (fl h) 7)) (hO2 : OWN K2 L2 f2 ow2) (hE : EXT Kl Ll K2 L2) (hoth : ∀ i, i < n → i ≠ a → MDo L f2 qs (cs i) (V i) (N i) (R i) (qs i)) (ha : MDo L f2 qs (cs a) Va Na Ra (qs a)) : MDf K L f h K2 L2 f2 ow2 n qs cs (va_up V a Va) (va_up N a Na) (va_up R a Ra) := by
  obtain ⟨⟨hF, hH⟩, hO, ⟨hc, hm⟩, hinj, hobj⟩ := hM
  refine ⟨⟨fun b hb n1 k6 => (hf b hb).trans (hF b hb n1 k6), hH.tr (PHM.of (hf h hhL))⟩, hO2, ⟨by rw [hf h hhL]; exact hc, fun i hi => ?_⟩, hinj, fun i hi => ?_⟩
  · rw [hf h hhL, h7]
    obtain ⟨m1, m2, m3⟩ := hm i hi
    exact ⟨m1, m2.ext hE, m3⟩
  · by_cases e : i = a
    · rw [e, va_up_self, va_up_self, va_up_self]
      exact ha
    · rw [va_up_ne _ _ e, va_up_ne _ _ e, va_up_ne _ _ e]
      exact hoth i hi e
theorem own_same (hO : OWN K L f ow) (h0 : ∀ y, isr K L 0 y → f2 y = f y) (h1 : ∀ y, isr K L 1 y → f2 y = f y) : OWN K L f2 ow := ⟨fun y hy => by rw [h0 y hy]; exact hO.1 y hy, fun y hy => by rw [h1 y hy]; exact hO.2 y hy⟩
/-- a value is written -/
theorem mdf_val {j : Nat} {w : Int64} (hhL : isr K L 2 h) (hE : EXT K L Kl Ll) (hPI : PI kT kI kJ Kl Ll fl) (hM : MDf K L f h Kl Ll fl ow n qs cs V N R) (ha : a < n) (e2 : f2 = s_J fl (cP (fl (qs a)) 1) j w) : MDf K L f h Kl Ll f2 ow n qs cs (va_up V a (vp_updL (V a) j w)) N R := by
  have hM0 := hM
  obtain ⟨⟨hF, hH⟩, hO, ⟨hc, hm⟩, hinj, hobj⟩ := hM
  have hx := (hm a ha).2.1
  obtain ⟨cn, v, b, m, st, i, e, hv, hb, hmm, hs, hi⟩ := hPI.a1 hx
  obtain ⟨g, eg⟩ := hPI.a3 hv
  rw [th_pv e, s_J_of eg] at e2
  have hxo := hobj a ha
  have hvL : v ∉ L := by have := hxo.2.2.2.2.1; rw [th_pv e] at this; exact this
  have eo : ∀ y, y ≠ v → f2 y = fl y := fun y hy => by rw [e2, va_up_ne _ _ hy]
  have eK : ∀ k y, isr Kl Ll k y → ¬ k = 3 → f2 y = fl y := fun k y hy hk => eo y (isr_ne hy hv hk)
  obtain ⟨q1, pc, c1, c2, c3, q5, fc, q7, mc, eh, h1, h2, h3, h4, h5, h6, h7, h8⟩ := hPI.a2 (hhL.ext hE)
  have hV : g_vl fl (qs a) = g := th_vl e eg
  have key := mdf_set (a := a) (Va := vp_updL (V a) j w) (Na := N a) (Ra := R a) (K2 := Kl) (L2 := Ll) (f2 := f2) (ow2 := ow) hM0 hhL.1 (fun y hy => eo y (ne_of hy hvL)) (by rw [ob_q7 eh]; exact eK 6 _ h7 (by decide)) (own_same hO (fun y hy => eK 0 y hy (by decide)) (fun y hy => eK 1 y hy (by decide))) EXT.rf (fun k hk hne => ?_) ?_
  · rw [va_up_id, va_up_id] at key
    exact key
  · have hk1 := (hm k hk).2.1
    refine (hobj k hk).keep (eK 1 _ hk1 (by decide)) (eo _ (fun e9 => ?_)) (fun r hr => eK 4 _ (ow_pi hPI hk1 hr) (by decide))
    have o1 := (hO.2 _ hk1).1
    have o2 := (hO.2 _ hx).1
    rw [th_pv e] at o2
    rw [e9, o2] at o1
    exact hne (hinj k a hk ha o1.symm)
  · obtain ⟨p1, p2, p3, p4, p5, p6⟩ := hxo
    have e1 := eK 1 _ hx (by decide)
    refine ⟨by unfold g_cn; rw [e1]; exact p1, ?_, fun w => by unfold g_lk; rw [e1]; exact p3 w, ?_, by rw [e1]; exact p5, by rw [e1]; exact p6⟩
    · unfold g_vl
      rw [e1, th_pv e, e2, va_up_self, ← p2, hV]
      rfl
    · rw [← p4]
      unfold g_rw
      rw [e1]
      cases hr : cR (fl (qs a)) 5 with
      | none => rfl
      | some r =>
        show some (aN (f2 r), aI (f2 r)) = some (aN (fl r), aI (fl r))
        rw [eK 4 _ (ow_pi hPI hx hr) (by decide)]
/-- a field of the object itself is written: a link -/
theorem mdf_link {w : Int32} {y : Nat} (hw : w.toInt = 8 ∨ w.toInt = 11 ∨ w.toInt = 15) (hhL : isr K L 2 h) (hE : EXT K L Kl Ll) (hPI : PI kT kI kJ Kl Ll fl) (hM : MDf K L f h Kl Ll fl ow n qs cs V N R) (ha : a < n) (e2 : f2 = ks_hold fl (qs a) w (some (qs y))) : MDf K L f h Kl Ll f2 ow n qs cs V (va_up N a (fun u => if u = w.toInt then some y else N a u)) R := by
  have hM0 := hM
  obtain ⟨⟨hF, hH⟩, hO, ⟨hc, hm⟩, hinj, hobj⟩ := hM
  have hx := (hm a ha).2.1
  obtain ⟨cn, v, b, m, st, i, e, hv, hb, hmm, hs, hi⟩ := hPI.a1 hx
  have hxL := (hm a ha).2.2
  have hxo := hobj a ha
  have ex : ∃ b2 m2 s2, f2 = va_up fl (qs a) (.inr (1, [.int cn, .ref v, va_rf b2, va_rf m2, va_rf s2, va_rf i])) ∧ ∀ u : Int, (if u = 8 then b2 else if u = 11 then m2 else if u = 15 then s2 else none) = if u = w.toInt then some (qs y) else if u = 8 then b else if u = 11 then m else if u = 15 then st else none := by
    rw [e2]
    unfold ks_hold
    rcases hw with hw | hw | hw
    · refine ⟨some (qs y), m, st, by rw [if_pos hw, s_F_of e]; rfl, fun u => ?_⟩
      rw [hw]
      split <;> rfl
    · refine ⟨b, some (qs y), st, by rw [if_neg (by omega), if_pos hw, s_F_of e]; rfl, fun u => ?_⟩
      rw [hw]
      by_cases h8 : u = 8
      · rw [if_pos h8, if_neg (by omega), if_pos h8]
      · rw [if_neg h8]
        (repeat' split) <;> first | rfl | (exfalso; omega) | simp_all
    · refine ⟨b, m, some (qs y), by rw [if_neg (by omega), if_neg (by omega), if_pos hw, s_F_of e]; rfl, fun u => ?_⟩
      rw [hw]
      by_cases h8 : u = 8
      · rw [if_pos h8, if_neg (by omega), if_pos h8]
      · rw [if_neg h8]
        by_cases h11 : u = 11
        · rw [if_pos h11, if_neg (by omega), if_neg h8, if_pos h11]
        · rw [if_neg h11]
          (repeat' split) <;> first | rfl | (exfalso; omega) | simp_all
  obtain ⟨b2, m2, s2, e3, hl⟩ := ex
  have eo : ∀ z, z ≠ qs a → f2 z = fl z := fun z hz => by rw [e3, va_up_ne _ _ hz]
  have eK : ∀ k z, isr Kl Ll k z → ¬ k = 1 → f2 z = fl z := fun k z hz hk => eo z (isr_ne hz hx hk)
  have ex2 : f2 (qs a) = .inr (1, [.int cn, .ref v, va_rf b2, va_rf m2, va_rf s2, va_rf i]) := by rw [e3, va_up_self]
  obtain ⟨q1, pc, c1, c2, c3, q5, fc, q7, mc, eh, h1, h2, h3, h4, h5, h6, h7, h8⟩ := hPI.a2 (hhL.ext hE)
  have hO2 : OWN Kl Ll f2 ow := by
    refine ⟨fun z hz => by rw [eK 0 z hz (by decide)]; exact hO.1 z hz, fun z hz => ?_⟩
    by_cases ez : z = qs a
    · have o := hO.2 _ hx
      rw [th_pv e, th_i e] at o
      rw [ez, th_pv ex2, th_i ex2]
      exact o
    · rw [eo z ez]
      exact hO.2 z hz
  have key := mdf_set (a := a) (Va := V a) (Na := fun u => if u = w.toInt then some y else N a u) (Ra := R a) (K2 := Kl) (L2 := Ll) (f2 := f2) (ow2 := ow) hM0 hhL.1 (fun z hz => eo z (ne_of hz hxL)) (by rw [ob_q7 eh]; exact eK 6 _ h7 (by decide)) hO2 EXT.rf (fun k hk hne => ?_) ?_
  · rw [va_up_id, va_up_id] at key
    exact key
  · have hk1 := (hm k hk).2.1
    exact (hobj k hk).keep (eo _ (fun e9 => hne (hinj k a hk ha e9))) (eK 3 _ (ow_pv hPI hk1) (by decide)) (fun r hr => eK 4 _ (ow_pi hPI hk1 hr) (by decide))
  · obtain ⟨p1, p2, p3, p4, p5, p6⟩ := hxo
    refine ⟨?_, ?_, fun u => ?_, ?_, ?_, ?_⟩
    · rw [th_cn ex2, ← p1, th_cn e]
    · unfold g_vl at p2 ⊢
      rw [th_pv e] at p2
      rw [th_pv ex2, eK 3 _ hv (by decide)]
      exact p2
    · rw [th_lk ex2, hl u]
      have p := p3 u
      rw [th_lk e] at p
      by_cases hu : u = w.toInt
      · rw [if_pos hu]
        show _ = Option.map qs (if u = w.toInt then some y else N a u)
        rw [if_pos hu]; rfl
      · rw [if_neg hu]
        show _ = Option.map qs (if u = w.toInt then some y else N a u)
        rw [if_neg hu]; exact p
    · rw [← p4]
      unfold g_rw
      rw [th_i ex2, th_i e]
      cases i with
      | none => rfl
      | some r =>
        show some (aN (f2 r), aI (f2 r)) = some (aN (fl r), aI (fl r))
        rw [eK 4 _ (hi r rfl) (by decide)]
    · rw [th_pv ex2]; rw [th_pv e] at p5; exact p5
    · rw [th_i ex2]; rw [th_i e] at p6; exact p6
/-- a place of a row is written -/
theorem mdf_place {r m j : Nat} {g : Nat → Int32} {w : Int32} (hhL : isr K L 2 h) (hE : EXT K L Kl Ll) (hPI : PI kT kI kJ Kl Ll fl) (hM : MDf K L f h Kl Ll fl ow n qs cs V N R) (ha : a < n) (hr : cR (fl (qs a)) 5 = some r) (er : fl r = .inl (kI, m, .inl g)) (e2 : f2 = s_I fl r j w) : MDf K L f h Kl Ll f2 ow n qs cs V N (va_up R a (some (m, upd g j w))) := by
  have hM0 := hM
  obtain ⟨⟨hF, hH⟩, hO, ⟨hc, hm⟩, hinj, hobj⟩ := hM
  have hx := (hm a ha).2.1
  have hxo := hobj a ha
  have hr4 := ow_pi hPI hx hr
  have hrL := hxo.2.2.2.2.2 r hr
  rw [s_I_of er] at e2
  have eo : ∀ y, y ≠ r → f2 y = fl y := fun y hy => by rw [e2, va_up_ne _ _ hy]
  have eK : ∀ k y, isr Kl Ll k y → ¬ k = 4 → f2 y = fl y := fun k y hy hk => eo y (isr_ne hy hr4 hk)
  obtain ⟨q1, pc, c1, c2, c3, q5, fc, q7, mc, eh, h1, h2, h3, h4, h5, h6, h7, h8⟩ := hPI.a2 (hhL.ext hE)
  have key := mdf_set (a := a) (Va := V a) (Na := N a) (Ra := some (m, upd g j w)) (K2 := Kl) (L2 := Ll) (f2 := f2) (ow2 := ow) hM0 hhL.1 (fun y hy => eo y (ne_of hy hrL)) (by rw [ob_q7 eh]; exact eK 6 _ h7 (by decide)) (own_same hO (fun y hy => eK 0 y hy (by decide)) (fun y hy => eK 1 y hy (by decide))) EXT.rf (fun k hk hne => ?_) ?_
  · rw [va_up_id, va_up_id] at key
    exact key
  · have hk1 := (hm k hk).2.1
    refine (hobj k hk).keep (eK 1 _ hk1 (by decide)) (eK 3 _ (ow_pv hPI hk1) (by decide)) (fun r2 hr2 => eo _ (fun e9 => ?_))
    have o1 := (hO.2 _ hk1).2 r2 hr2
    have o2 := (hO.2 _ hx).2 r hr
    rw [e9, o2] at o1
    exact hne (hinj k a hk ha o1.symm)
  · obtain ⟨p1, p2, p3, p4, p5, p6⟩ := hxo
    have e1 := eK 1 _ hx (by decide)
    refine ⟨by unfold g_cn; rw [e1]; exact p1, by unfold g_vl; rw [e1, eK 3 _ (ow_pv hPI hx) (by decide)]; exact p2, fun w => by unfold g_lk; rw [e1]; exact p3 w, ?_, by rw [e1]; exact p5, by rw [e1]; exact p6⟩
    unfold g_rw
    rw [e1, hr]
    show some (aN (f2 r), aI (f2 r)) = _
    rw [e2, va_up_self]
    rfl
/-- the row is taken away -/
theorem mdf_row0 (hhL : isr K L 2 h) (hE : EXT K L Kl Ll) (hPI : PI kT kI kJ Kl Ll fl) (hM : MDf K L f h Kl Ll fl ow n qs cs V N R) (ha : a < n) (e2 : f2 = s_F fl (qs a) 5 (va_rf none)) : MDf K L f h Kl Ll f2 ow n qs cs V N (va_up R a none) := by
  have hM0 := hM
  obtain ⟨⟨hF, hH⟩, hO, ⟨hc, hm⟩, hinj, hobj⟩ := hM
  have hx := (hm a ha).2.1
  obtain ⟨cn, v, b, m, st, i, e, hv, hb, hmm, hs, hi⟩ := hPI.a1 hx
  have hxL := (hm a ha).2.2
  have hxo := hobj a ha
  have e3 : f2 = va_up fl (qs a) (.inr (1, [.int cn, .ref v, va_rf b, va_rf m, va_rf st, va_rf none])) := by rw [e2, s_F_of e]; rfl
  have eo : ∀ z, z ≠ qs a → f2 z = fl z := fun z hz => by rw [e3, va_up_ne _ _ hz]
  have eK : ∀ k z, isr Kl Ll k z → ¬ k = 1 → f2 z = fl z := fun k z hz hk => eo z (isr_ne hz hx hk)
  have ex2 : f2 (qs a) = .inr (1, [.int cn, .ref v, va_rf b, va_rf m, va_rf st, va_rf none]) := by rw [e3, va_up_self]
  obtain ⟨q1, pc, c1, c2, c3, q5, fc, q7, mc, eh, h1, h2, h3, h4, h5, h6, h7, h8⟩ := hPI.a2 (hhL.ext hE)
  have hO2 : OWN Kl Ll f2 ow := by
    refine ⟨fun z hz => by rw [eK 0 z hz (by decide)]; exact hO.1 z hz, fun z hz => ?_⟩
    by_cases ez : z = qs a
    · have o := hO.2 _ hx
      rw [th_pv e] at o
      rw [ez, th_pv ex2, th_i ex2]
      exact ⟨o.1, fun r hr => by cases hr⟩
    · rw [eo z ez]
      exact hO.2 z hz
  have key := mdf_set (a := a) (Va := V a) (Na := N a) (Ra := none) (K2 := Kl) (L2 := Ll) (f2 := f2) (ow2 := ow) hM0 hhL.1 (fun z hz => eo z (ne_of hz hxL)) (by rw [ob_q7 eh]; exact eK 6 _ h7 (by decide)) hO2 EXT.rf (fun k hk hne => ?_) ?_
  · rw [va_up_id, va_up_id] at key
    exact key
  · have hk1 := (hm k hk).2.1
    exact (hobj k hk).keep (eo _ (fun e9 => hne (hinj k a hk ha e9))) (eK 3 _ (ow_pv hPI hk1) (by decide)) (fun r hr => eK 4 _ (ow_pi hPI hk1 hr) (by decide))
  · obtain ⟨p1, p2, p3, p4, p5, p6⟩ := hxo
    refine ⟨by rw [th_cn ex2, ← p1, th_cn e], ?_, fun u => by rw [th_lk ex2, ← p3 u, th_lk e], th_rw0 ex2, by rw [th_pv ex2]; rw [th_pv e] at p5; exact p5, fun r hr => by rw [th_i ex2] at hr; cases hr⟩
    unfold g_vl at p2 ⊢
    rw [th_pv e] at p2
    rw [th_pv ex2, eK 3 _ hv (by decide)]
    exact p2
/-- a new row -/
theorem mdf_row1 {j : Nat} (hhL : isr K L 2 h) (hE : EXT K L Kl Ll) (hPI : PI kT kI kJ Kl Ll fl) (hM : MDf K L f h Kl Ll fl ow n qs cs V N R) (ha : a < n) (hq : q ∉ Ll) (e2 : f2 = s_F (va_up fl q (.inl (kI, j, .inl (fun _ => 0)))) (qs a) 5 (va_rf (some q))) : MDf K L f h (va_up Kl q 4) (q :: Ll) f2 (va_up ow q (qs a)) n qs cs V N (va_up R a (some (j, fun _ => 0))) := by
  have hM0 := hM
  obtain ⟨⟨hF, hH⟩, hO, ⟨hc, hm⟩, hinj, hobj⟩ := hM
  have hx := (hm a ha).2.1
  obtain ⟨cn, v, b, m, st, i, e, hv, hb, hmm, hs, hi⟩ := hPI.a1 hx
  have hxL := (hm a ha).2.2
  have hxo := hobj a ha
  have hqx : qs a ≠ q := ne_of hx.1 hq
  have e3 : f2 = va_up (va_up fl q (.inl (kI, j, .inl (fun _ => 0)))) (qs a) (.inr (1, [.int cn, .ref v, va_rf b, va_rf m, va_rf st, va_rf (some q)])) := by
    rw [e2, s_F_of (show va_up fl q (.inl (kI, j, .inl (fun _ => 0))) (qs a) = _ from by rw [va_up_ne _ _ hqx]; exact e)]
    rfl
  have eo : ∀ z, z ∈ Ll → z ≠ qs a → f2 z = fl z := fun z hz hz2 => by rw [e3, va_up_ne _ _ hz2, va_up_ne _ _ (ne_of hz hq)]
  have eK : ∀ k z, isr Kl Ll k z → ¬ k = 1 → f2 z = fl z := fun k z hz hk => eo z hz.1 (isr_ne hz hx hk)
  have ex2 : f2 (qs a) = .inr (1, [.int cn, .ref v, va_rf b, va_rf m, va_rf st, va_rf (some q)]) := by rw [e3, va_up_self]
  have eq2 : f2 q = .inl (kI, j, .inl (fun _ => 0)) := by rw [e3, va_up_ne _ _ hqx.symm, va_up_self]
  obtain ⟨q1, pc, c1, c2, c3, q5, fc, q7, mc, eh, h1, h2, h3, h4, h5, h6, h7, h8⟩ := hPI.a2 (hhL.ext hE)
  have hback : ∀ k z, isr (va_up Kl q 4) (q :: Ll) k z → ¬ k = 4 → isr Kl Ll k z := fun k z hz hk => by
    obtain ⟨z1, z2⟩ := hz
    have n1 : z ≠ q := fun e9 => by rw [e9, va_up_self] at z2; exact hk z2.symm
    rw [va_up_ne _ _ n1] at z2
    rcases List.mem_cons.mp z1 with e | z1
    · exact absurd e n1
    · exact ⟨z1, z2⟩
  have hO2 : OWN (va_up Kl q 4) (q :: Ll) f2 (va_up ow q (qs a)) := by
    refine ⟨fun z hz => ?_, fun z hz => ?_⟩
    · have hz2 := hback 0 z hz (by decide)
      obtain ⟨a1, b1, d1, z0, ey, ha1, hb1, hd1, _⟩ := hPI.a0 hz2
      have o := hO.1 z hz2
      rw [eK 0 z hz2 (by decide)]
      rw [li_pn ey, li_pd ey, li_pv ey] at o ⊢
      rw [va_up_ne _ _ (ne_of ha1.1 hq), va_up_ne _ _ (ne_of hb1.1 hq), va_up_ne _ _ (ne_of hd1.1 hq)]
      exact o
    · have hz2 := hback 1 z hz (by decide)
      have o := hO.2 z hz2
      by_cases ez : z = qs a
      · rw [ez, th_pv ex2, th_i ex2]
        rw [ez, th_pv e] at o
        refine ⟨by rw [va_up_ne _ _ (ne_of hv.1 hq)]; exact o.1, fun r hr => ?_⟩
        cases hr
        exact va_up_self _ _ _
      · rw [eo z hz2.1 ez, va_up_ne _ _ (ne_of (ow_pv hPI hz2).1 hq)]
        exact ⟨o.1, fun r hr => by rw [va_up_ne _ _ (ne_of (ow_pi hPI hz2 hr).1 hq)]; exact o.2 r hr⟩
  have key := mdf_set (a := a) (Va := V a) (Na := N a) (Ra := some (j, fun _ => 0)) (K2 := va_up Kl q 4) (L2 := q :: Ll) (f2 := f2) (ow2 := va_up ow q (qs a)) hM0 hhL.1 (fun z hz => eo z (hE z hz).1 (ne_of hz hxL)) (by rw [ob_q7 eh]; exact eK 6 _ h7 (by decide)) hO2 (EXT.new hq) (fun k hk hne => ?_) ?_
  · rw [va_up_id, va_up_id] at key
    exact key
  · have hk1 := (hm k hk).2.1
    exact (hobj k hk).keep (eo _ hk1.1 (fun e9 => hne (hinj k a hk ha e9))) (eK 3 _ (ow_pv hPI hk1) (by decide)) (fun r hr => eK 4 _ (ow_pi hPI hk1 hr) (by decide))
  · obtain ⟨p1, p2, p3, p4, p5, p6⟩ := hxo
    refine ⟨by rw [th_cn ex2, ← p1, th_cn e], ?_, fun u => by rw [th_lk ex2, ← p3 u, th_lk e], th_rw1 ex2 eq2, by rw [th_pv ex2]; rw [th_pv e] at p5; exact p5, fun r hr => by rw [th_i ex2] at hr; cases hr; exact fun h9 => hq (hE q h9).1⟩
    unfold g_vl at p2 ⊢
    rw [th_pv e] at p2
    rw [th_pv ex2, eK 3 _ hv (by decide)]
    exact p2
end FILL

