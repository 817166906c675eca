theorem clamp_int {i : Int32} (h : 0 ≤ i.toInt) : ((Int32.toNatClampNeg i : Nat) : Int) = i.toInt := by
  have hc : Int32.toNatClampNeg i = i.toInt.toNat := rfl
  omega
/-- the object h with foundCount fc: the places of found below fc hold objects -/
def FN (kT : ClassId) (K : Nat → Nat) (L : List Nat) (f : Nat → va_E) (h : Nat) (fc : Int32) : Prop := ∃ (q1 : Nat) (pc : Int32) (c1 c2 c3 q5 q7 : Nat) (mc : Int32) (g : Nat → Option Nat), f h = .inr (2, [.ref q1, .int pc, .ref c1, .ref c2, .ref c3, .ref q5, .int fc, .ref q7, .int mc]) ∧ isr K L 5 q1 ∧ isr K L 0 c1 ∧ isr K L 0 c2 ∧ isr K L 0 c3 ∧ isr K L 6 q5 ∧ (0 ≤ fc.toInt ∧ fc.toInt ≤ 24) ∧ isr K L 6 q7 ∧ (0 ≤ mc.toInt ∧ mc.toInt ≤ 24) ∧ f q5 = .inl (kT, 24, .inr (.inr (.inr (.inr g)))) ∧ (∀ j, j < 24 → opr K L 1 (g j)) ∧ ∀ j : Nat, (j : Int) < fc.toInt → g j ≠ none
theorem FN.fr {kT : ClassId} {K : Nat → Nat} {L : List Nat} {f f2 : Nat → va_E} {h : Nat} {fc : Int32} (hF : FN kT K L f h fc) (hh : isr K L 2 h) (hfr : FR sL K L f f2) : FN kT K L f2 h fc := by
  obtain ⟨q1, pc, c1, c2, c3, q5, q7, mc, g, e, h1, h2, h3, h4, h5, h6, h7, h8, e2, h9, h10⟩ := hF
  exact ⟨q1, pc, c1, c2, c3, q5, q7, mc, g, (hfr h hh.1 (by rw [hh.2]; rfl)).trans e, h1, h2, h3, h4, h5, h6, h7, h8, (hfr q5 h5.1 (by rw [h5.2]; rfl)).trans e2, h9, h10⟩
