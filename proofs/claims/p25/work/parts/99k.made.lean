-- OBJECTS IN THE MAKING: qs their cells, cs classes, V values, N links by numbers, R rows; K, L, f the heap ahead
def PHM (f f2 : Nat → va_E) (h : Nat) : Prop := cP (f2 h) 0 = cP (f h) 0 ∧ cI (f2 h) 1 = cI (f h) 1 ∧ cP (f2 h) 2 = cP (f h) 2 ∧ cP (f2 h) 3 = cP (f h) 3 ∧ cP (f2 h) 4 = cP (f h) 4 ∧ cP (f2 h) 5 = cP (f h) 5 ∧ cP (f2 h) 7 = cP (f h) 7
def MDo (L : List Nat) (fl : Nat → va_E) (qs : Nat → Nat) (c : Int32) (V : Nat → Int64) (N : Int → Option Nat) (R : Option (Nat × (Nat → Int32))) (x : Nat) : Prop := g_cn fl x = c ∧ g_vl fl x = V ∧ (∀ w, g_lk fl x w = (N w).map qs) ∧ g_rw fl x = R ∧ cP (fl x) 1 ∉ L ∧ ∀ r, cR (fl x) 5 = some r → r ∉ L
def MDf (K : Nat → Nat) (L : List Nat) (f : Nat → va_E) (h : Nat) (Kl : Nat → Nat) (Ll : List Nat) (fl : Nat → va_E) (ow : Nat → Nat) (n : Nat) (qs : Nat → Nat) (cs : Nat → Int32) (V : Nat → Nat → Int64) (N : Nat → Int → Option Nat) (R : Nat → Option (Nat × (Nat → Int32))) : Prop := ((∀ a, a ∈ L → ¬ a = h → ¬ K a = 6 → fl a = f a) ∧ PHM f fl h) ∧ OWN Kl Ll fl ow ∧ ((cI (fl h) 8).toInt = (n : Int) ∧ ∀ i, i < n → aR (fl (cP (fl h) 7)) i = some (qs i) ∧ isr Kl Ll 1 (qs i) ∧ qs i ∉ L) ∧ (∀ i j, i < n → j < n → qs i = qs j → i = j) ∧ ∀ i, i < n → MDo L fl qs (cs i) (V i) (N i) (R i) (qs i)
theorem ne_of {a q : Nat} {Ll : List Nat} (ha : a ∈ Ll) (hq : q ∉ Ll) : a ≠ q := fun e => hq (by rw [← e]; exact ha)
section MADE
variable {kT kI kJ : ClassId} {K Kl K2 : Nat → Nat} {L Ll L2 : List Nat} {f fl f1 f2 : Nat → va_E} {ow : Nat → Nat} {x h q u a n q1 q5 q7 c1 c2 c3 : Nat} {pc fc mc : Int32} {qs : Nat → Nat} {cs : Nat → Int32} {V : Nat → Nat → Int64} {N : Nat → Int → Option Nat} {R : Nat → Option (Nat × (Nat → Int32))}
theorem PHM.rf : PHM f f h := ⟨rfl, rfl, rfl, rfl, rfl, rfl, rfl⟩
theorem PHM.tr (h1 : PHM f f1 h) (h2 : PHM f1 f2 h) : PHM f f2 h := ⟨h2.1.trans h1.1, h2.2.1.trans h1.2.1, h2.2.2.1.trans h1.2.2.1, h2.2.2.2.1.trans h1.2.2.2.1, h2.2.2.2.2.1.trans h1.2.2.2.2.1, h2.2.2.2.2.2.1.trans h1.2.2.2.2.2.1, h2.2.2.2.2.2.2.trans h1.2.2.2.2.2.2⟩
theorem PHM.of (e : f2 h = f h) : PHM f f2 h := by unfold PHM; rw [e]; exact ⟨rfl, rfl, rfl, rfl, rfl, rfl, rfl⟩
/-- an object whose cells stay -/
theorem MDo.keep {c : Int32} {V : Nat → Int64} {N : Int → Option Nat} {R : Option (Nat × (Nat → Int32))} (hM : MDo L fl qs c V N R x) (e1 : f2 x = fl x) (e2 : f2 (cP (fl x) 1) = fl (cP (fl x) 1)) (e3 : ∀ r, cR (fl x) 5 = some r → f2 r = fl r) : MDo L f2 qs c V N R x := by
  obtain ⟨h1, h2, h3, h4, h5, h6⟩ := hM
  refine ⟨by unfold g_cn; rw [e1]; exact h1, by unfold g_vl; rw [e1, e2]; exact h2, fun w => by unfold g_lk; rw [e1]; exact h3 w, ?_, by rw [e1]; exact h5, by rw [e1]; exact h6⟩
  unfold g_rw
  rw [e1, ← h4]
  unfold g_rw
  cases hr : cR (fl x) 5 with
  | none => rfl
  | some r =>
    show some (aN (f2 r), aI (f2 r)) = some (aN (fl r), aI (fl r))
    rw [e3 r hr]
theorem MDo.mp {c : Int32} {V : Nat → Int64} {N : Int → Option Nat} {R : Option (Nat × (Nat → Int32))} {qs2 : Nat → Nat} (hM : MDo L fl qs c V N R x) (e : ∀ w, (N w).map qs2 = (N w).map qs) : MDo L fl qs2 c V N R x := ⟨hM.1, hM.2.1, fun w => by rw [e w]; exact hM.2.2.1 w, hM.2.2.2⟩
theorem ow_pv (hPI : PI kT kI kJ Kl Ll fl) (ht : isr Kl Ll 1 x) : isr Kl Ll 3 (cP (fl x) 1) := by
  obtain ⟨cn, v, b, m, st, i, e, hv, hb, hm, hs, hi⟩ := hPI.a1 ht
  rw [th_pv e]
  exact hv
theorem ow_pi (hPI : PI kT kI kJ Kl Ll fl) (ht : isr Kl Ll 1 x) {r : Nat} (hr : cR (fl x) 5 = some r) : isr Kl Ll 4 r := by
  obtain ⟨cn, v, b, m, st, i, e, hv, hb, hm, hs, hi⟩ := hPI.a1 ht
  rw [th_i e] at hr
  exact hi r hr
theorem mdf_0 (hO : OWN K L f2 ow) (hF : (∀ a, a ∈ L → ¬ a = h → ¬ K a = 6 → f2 a = f a) ∧ PHM f f2 h) (hc : (cI (f2 h) 8).toInt = 0) : MDf K L f h K L f2 ow 0 qs cs V N R := ⟨hF, hO, ⟨hc, fun i hi => absurd hi (Nat.not_lt_zero _)⟩, fun i j hi => absurd hi (Nat.not_lt_zero _), fun i hi => absurd hi (Nat.not_lt_zero _)⟩
/-- one more is made -/
theorem mdf_push {c t z : Int32} {g : Nat → Option Nat} {fa fb : Nat → va_E} (hE : EXT K L Kl Ll) (hhL : isr K L 2 h) (hPI : PI kT kI kJ Kl Ll fl) (hM : MDf K L f h Kl Ll fl ow n qs cs V N R) (hN0 : ∀ i w, N i w = none) (hR0 : ∀ i, R i = none) (e : fl h = .inr (2, [.ref q1, .int pc, .ref c1, .ref c2, .ref c3, .ref q5, .int fc, .ref q7, .int mc])) (h7 : isr Kl Ll 6 q7) (e7 : fl q7 = .inl (kT, 24, .inr (.inr (.inr (.inr g)))))
    (hnf : q ∉ Ll ∧ u ∉ Ll ∧ q ≠ u ∧ K2 = va_up (va_up Kl u 3) q 1 ∧ L2 = q :: u :: Ll ∧ fa = va_up (va_up fl u (.inl (kJ, 17, .inr (.inl (ks_vals c t))))) q (.inr (1, [.int c, .ref u, va_rf none, va_rf none, va_rf none, va_rf none]))) (eb : va_up fa q7 (.inl (kT, 24, .inr (.inr (.inr (.inr (va_up g (Int32.toNatClampNeg mc) (some q))))))) = fb) (e2 : va_up fb h (.inr (2, [.ref q1, .int pc, .ref c1, .ref c2, .ref c3, .ref q5, .int fc, .ref q7, .int z])) = f2) (hz : z.toInt = mc.toInt + 1) :
    MDf K L f h K2 L2 f2 (va_up ow u q) (n + 1) (va_up qs n q) (va_up cs n c) (va_up V n (ks_vals c t)) N R := by
  obtain ⟨⟨hF, hH⟩, hO, ⟨hc, hm⟩, hinj, hobj⟩ := hM
  obtain ⟨hq, hu, hqu, rfl, rfl, hfa⟩ := hnf
  have hh := hhL.ext hE
  rw [ob_mc e] at hc
  rw [ob_q7 e, e7] at hm
  have hn : Int32.toNatClampNeg mc = n := by
    have := clamp_int (i := mc) (by omega)
    omega
  have nh7 : h ≠ q7 := isr_ne hh h7 (by decide)
  have nhq : h ≠ q := fun e => hq (e ▸ hh.1)
  have nhu : h ≠ u := fun e => hu (e ▸ hh.1)
  have n7q : q7 ≠ q := fun e => hq (e ▸ h7.1)
  have n7u : q7 ≠ u := fun e => hu (e ▸ h7.1)
  have eh : f2 h = .inr (2, [.ref q1, .int pc, .ref c1, .ref c2, .ref c3, .ref q5, .int fc, .ref q7, .int z]) := by rw [← e2, va_up_self]
  have e72 : f2 q7 = .inl (kT, 24, .inr (.inr (.inr (.inr (va_up g (Int32.toNatClampNeg mc) (some q)))))) := by rw [← e2, va_up_ne _ _ nh7.symm, ← eb, va_up_self]
  have eq2 : f2 q = .inr (1, [.int c, .ref u, va_rf none, va_rf none, va_rf none, va_rf none]) := by rw [← e2, va_up_ne _ _ nhq.symm, ← eb, va_up_ne _ _ n7q.symm, hfa, va_up_self]
  have eu2 : f2 u = .inl (kJ, 17, .inr (.inl (ks_vals c t))) := by rw [← e2, va_up_ne _ _ nhu.symm, ← eb, va_up_ne _ _ n7u.symm, hfa, va_up_ne _ _ hqu.symm, va_up_self]
  have eo : ∀ a, a ∈ Ll → a ≠ h → a ≠ q7 → f2 a = fl a := fun a ha n1 n2 => by
    rw [← e2, va_up_ne _ _ n1, ← eb, va_up_ne _ _ n2, hfa, va_up_ne _ _ (ne_of ha hq), va_up_ne _ _ (ne_of ha hu)]
  have eK : ∀ k a, isr Kl Ll k a → ¬ k = 2 → ¬ k = 6 → f2 a = fl a := fun k a ha k2 k6 => eo a ha.1 (isr_ne ha hh k2) (isr_ne ha h7 k6)
  have hEx : EXT Kl Ll (va_up (va_up Kl u 3) q 1) (q :: u :: Ll) := EXT.tr (EXT.new hu) (EXT.new (fun hx => by
    rcases List.mem_cons.mp hx with e | e
    · exact hqu e
    · exact hq e))
  have hback : ∀ k a, isr (va_up (va_up Kl u 3) q 1) (q :: u :: Ll) k a → a ≠ q → a ≠ u → isr Kl Ll k a := fun k a ha n1 n2 => by
    obtain ⟨h1, h2⟩ := ha
    rw [va_up_ne _ _ n1, va_up_ne _ _ n2] at h2
    rcases List.mem_cons.mp h1 with e | h1
    · exact absurd e n1
    · rcases List.mem_cons.mp h1 with e | h1
      · exact absurd e n2
      · exact ⟨h1, h2⟩
  have hkq : (va_up (va_up Kl u 3) q 1) q = 1 := va_up_self _ _ _
  have hku : (va_up (va_up Kl u 3) q 1) u = 3 := by rw [va_up_ne _ _ hqu.symm, va_up_self]
  refine ⟨⟨fun a ha n1 k6 => ?_, ?_⟩, ⟨fun y hy => ?_, fun y hy => ?_⟩, ⟨by rw [ob_mc eh, hz]; omega, fun i hi => ?_⟩, fun i j hi hj => ?_, fun i hi => ?_⟩
  · have hal := hE a ha
    rw [eo a hal.1 n1 (fun e9 => k6 (by rw [← hal.2, e9]; exact h7.2))]
    exact hF a ha n1 k6
  · refine hH.tr ?_
    unfold PHM
    rw [eh, e]
    exact ⟨rfl, rfl, rfl, rfl, rfl, rfl, rfl⟩
  · have n1 : y ≠ q := fun e9 => by have h9 := hy.2; rw [e9, hkq] at h9; cases h9
    have n2 : y ≠ u := fun e9 => by have h9 := hy.2; rw [e9, hku] at h9; cases h9
    have hy2 := hback 0 y hy n1 n2
    obtain ⟨a, b, d, z0, ey, ha, hb, hd, _⟩ := hPI.a0 hy2
    have o := hO.1 y hy2
    rw [eK 0 y hy2 (by decide) (by decide)]
    rw [li_pn ey, li_pd ey, li_pv ey] at o ⊢
    rw [va_up_ne _ _ (ne_of ha.1 hu), va_up_ne _ _ (ne_of hb.1 hu), va_up_ne _ _ (ne_of hd.1 hu)]
    exact o
  · by_cases n1 : y = q
    · subst n1
      rw [th_pv eq2, th_i eq2, va_up_self]
      exact ⟨rfl, fun r hr => by cases hr⟩
    · have n2 : y ≠ u := fun e9 => by have h9 := hy.2; rw [e9, hku] at h9; cases h9
      have hy2 := hback 1 y hy n1 n2
      have o := hO.2 y hy2
      rw [eK 1 y hy2 (by decide) (by decide)]
      rw [va_up_ne _ _ (ne_of (ow_pv hPI hy2).1 hu)]
      refine ⟨o.1, fun r hr => ?_⟩
      rw [va_up_ne _ _ (ne_of (ow_pi hPI hy2 hr).1 hu)]
      exact o.2 r hr
  · rw [ob_q7 eh, e72, hn]
    by_cases ei : i = n
    · subst ei
      rw [va_up_self]
      refine ⟨?_, ⟨List.mem_cons_self, hkq⟩, fun h9 => hq (hE q h9).1⟩
      show va_up g i (some q) i = some q
      rw [va_up_self]
    · have hi2 : i < n := by omega
      obtain ⟨m1, m2, m3⟩ := hm i hi2
      rw [va_up_ne _ _ ei]
      refine ⟨?_, m2.ext hEx, m3⟩
      show va_up g n (some q) i = some (qs i)
      rw [va_up_ne _ _ ei]
      exact m1
  · intro e9
    by_cases ei : i = n
    · by_cases ej : j = n
      · rw [ei, ej]
      · rw [ei, va_up_self, va_up_ne _ _ ej] at e9
        exact absurd (e9 ▸ (hm j (by omega)).2.1.1) hq
    · by_cases ej : j = n
      · rw [ej, va_up_self, va_up_ne _ _ ei] at e9
        exact absurd (e9 ▸ (hm i (by omega)).2.1.1) hq
      · rw [va_up_ne _ _ ei, va_up_ne _ _ ej] at e9
        exact hinj i j (by omega) (by omega) e9
  · by_cases ei : i = n
    · subst ei
      rw [va_up_self, va_up_self, va_up_self]
      refine ⟨th_cn eq2, th_vl eq2 eu2, fun w => ?_, by rw [hR0]; exact th_rw0 eq2, by rw [th_pv eq2]; exact fun h9 => hu (hE u h9).1, fun r hr => by rw [th_i eq2] at hr; cases hr⟩
      rw [th_lk eq2, hN0]
      split <;> first | rfl | (split <;> first | rfl | (split <;> rfl))
    · rw [va_up_ne _ _ ei, va_up_ne _ _ ei, va_up_ne _ _ ei]
      have hi2 : i < n := by omega
      have m2 := (hm i hi2).2.1
      exact ((hobj i hi2).mp (fun w => by rw [hN0]; rfl)).keep (eK 1 _ m2 (by decide) (by decide)) (eK 3 _ (ow_pv hPI m2) (by decide) (by decide)) (fun r hr => eK 4 _ (ow_pi hPI m2 hr) (by decide) (by decide))
end MADE

