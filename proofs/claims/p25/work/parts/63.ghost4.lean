-- the reference's rows as functions, and what holds of them
def SV (kI kJ : ClassId) (K : Nat → Nat) (L : List Nat) (f : Nat → va_E) (fS fC : Nat → Int32) (fF : Nat → Int64) : Prop := (∀ q, isr K L 11 q → f q = .inl (kI, 12, .inl fS)) ∧ (∀ q, isr K L 12 q → f q = .inl (kI, 6400, .inl fC)) ∧ ∀ q, isr K L 13 q → f q = .inl (kJ, 108800, .inr (.inl fF))
def GX (kI kJ : ClassId) (K : Nat → Nat) (L : List Nat) (f : Nat → va_E) (nE nB : Nat) : Prop := ∃ (fS fC : Nat → Int32) (fF : Nat → Int64), SV kI kJ K L f fS fC fF ∧ GI fS fC fF nE nB
section SVS
variable {kI kJ : ClassId} {K : Nat → Nat} {L : List Nat} {f f2 : Nat → va_E} {fS fC : Nat → Int32} {fF : Nat → Int64} {nE nB : Nat} {S : Nat → Bool}
theorem SV.mk {q1 q2 q3 : Nat} (hU : UN K L) (i1 : isr K L 11 q1) (i2 : isr K L 12 q2) (i3 : isr K L 13 q3) (e1 : f q1 = .inl (kI, 12, .inl fS)) (e2 : f q2 = .inl (kI, 6400, .inl fC)) (e3 : f q3 = .inl (kJ, 108800, .inr (.inl fF))) : SV kI kJ K L f fS fC fF := ⟨fun q h => by
  have := hU q1 q i1.1 h.1 (i1.2.trans h.2.symm)
  rw [← this]; exact e1, fun q h => by
  have := hU q2 q i2.1 h.1 (i2.2.trans h.2.symm)
  rw [← this]; exact e2, fun q h => by
  have := hU q3 q i3.1 h.1 (i3.2.trans h.2.symm)
  rw [← this]; exact e3⟩
theorem SV.fr (h : SV kI kJ K L f fS fC fF) (hfr : FR S K L f f2) (h1 : S 11 = false) (h2 : S 12 = false) (h3 : S 13 = false) : SV kI kJ K L f2 fS fC fF := ⟨fun q i => (hfr q i.1 (by rw [i.2]; exact h1)).trans (h.1 q i), fun q i => (hfr q i.1 (by rw [i.2]; exact h2)).trans (h.2.1 q i), fun q i => (hfr q i.1 (by rw [i.2]; exact h3)).trans (h.2.2 q i)⟩
/-- a call that leaves slots, classes and fields alone -/
theorem GX.fr (h : GX kI kJ K L f nE nB) (hfr : FR S K L f f2) (h1 : S 11 = false) (h2 : S 12 = false) (h3 : S 13 = false) : GX kI kJ K L f2 nE nB := by
  obtain ⟨fS, fC, fF, hS, hG⟩ := h
  exact ⟨fS, fC, fF, hS.fr hfr h1 h2 h3, hG⟩
theorem rkI.of {n : Nat} {P : (Nat → Int32) → Prop} {e : va_E} {g : Nat → Int32} (h : rkI kI n P e) (he : e = .inl (kI, n, .inl g)) : P g := by
  obtain ⟨g2, e2, hp⟩ := h
  have b := e2.symm.trans he
  injection b with b
  injection b with _ b
  injection b with _ b
  injection b with b
  subst b
  exact hp
theorem rkJ.of {n : Nat} {P : (Nat → Int64) → Prop} {e : va_E} {g : Nat → Int64} (h : rkJ kJ n P e) (he : e = .inl (kJ, n, .inr (.inl g))) : P g := by
  obtain ⟨g2, e2, hp⟩ := h
  have b := e2.symm.trans he
  injection b with b
  injection b with _ b
  injection b with _ b
  injection b with b
  injection b with b
  subst b
  exact hp
theorem plain_ne {o f w : Int32} (ho : 0 ≤ o.toInt) (hf : 0 ≤ f.toInt ∧ f.toInt < 17 ∧ ¬ (f.toInt = 8 ∨ f.toInt = 11 ∨ f.toInt = 15)) (hw : w.toInt = 17 * o.toInt + f.toInt) : ∀ a b, lkf b → ¬ 17 * a + b = Int32.toNatClampNeg w := fun a b hb => by
  have e1 := clamp_int ho
  have e3 := clamp_int (i := w) (by omega)
  unfold lkf at hb
  omega
end SVS

