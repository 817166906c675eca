-- THE ORDER of the leaves' objects; what the object's own ints are
def vAt (e : va_E) (i : Nat) : Int := match e with
  | .inr (_, l) => (match l[i]? with
    | some (.int v) => v.toInt
    | _ => 0)
  | _ => 0
def KP (f f2 : Nat → va_E) (g : Nat) : Prop := vAt (f2 g) 7 = vAt (f g) 7 ∧ vAt (f2 g) 8 = vAt (f g) 8
def OB (kI : ClassId) (K : Nat → Nat) (L : List Nat) (f : Nat → va_E) (k i : Nat) (c : Int) : Prop := ∀ (g q : Nat) (gO : Nat → Int32), isr K L 10 g → isr K L k q → f q = .inl (kI, 300, .inl gO) → ∀ j : Nat, (j : Int) < vAt (f g) i → (gO j).toInt ≤ c
def OR (kI : ClassId) (K : Nat → Nat) (L : List Nat) (f : Nat → va_E) (k i : Nat) : Prop := ∀ (g q : Nat) (gO : Nat → Int32), isr K L 10 g → isr K L k q → f q = .inl (kI, 300, .inl gO) → ∀ j : Nat, (j : Int) < vAt (f g) i → (gO j).toInt ≤ (gO ((vAt (f g) i).toNat - 1)).toInt
section ORDER
variable {kI kJ : ClassId} {K : Nat → Nat} {L : List Nat} {f f1 f2 : Nat → va_E} {k i g q x : Nat} {c c2 : Int} {gO : Nat → Int32} {S : Nat → Bool}
theorem KP.rf : KP f f g := ⟨rfl, rfl⟩
theorem KP.tr (h : KP f f1 g) (h2 : KP f1 f2 g) : KP f f2 g := ⟨h2.1.trans h.1, h2.2.trans h.2⟩
theorem KP.same (h : KP f f1 g) (e : f2 g = f1 g) : KP f f2 g := ⟨by rw [e]; exact h.1, by rw [e]; exact h.2⟩
theorem KP.put {a b : va_E} (h : KP f f1 g) (e1 : f1 g = a) (e2 : f2 g = b) (hv : vAt b 7 = vAt a 7 ∧ vAt b 8 = vAt a 8) : KP f f2 g := ⟨by rw [e2, hv.1, ← e1]; exact h.1, by rw [e2, hv.2, ← e1]; exact h.2⟩
theorem OB.mk {m : Int} (hU : UN K L) (hg : isr K L 10 g) (hq : isr K L k q) (e : f q = .inl (kI, 300, .inl gO)) (em : vAt (f g) i = m) (h : ∀ j : Nat, (j : Int) < m → (gO j).toInt ≤ c) : OB kI K L f k i c := fun g2 q2 gP hg2 hq2 e2 j hj => by
  have a := hU g g2 hg.1 hg2.1 (hg.2.trans hg2.2.symm)
  have b := hU q q2 hq.1 hq2.1 (hq.2.trans hq2.2.symm)
  subst a
  subst b
  have d := e.symm.trans e2
  injection d with d
  injection d with _ d
  injection d with _ d
  injection d with d
  subst d
  rw [em] at hj
  exact h j hj
theorem OR.mk {m : Int} (hU : UN K L) (hg : isr K L 10 g) (hq : isr K L k q) (e : f q = .inl (kI, 300, .inl gO)) (em : vAt (f g) i = m) (h : ∀ j : Nat, (j : Int) < m → (gO j).toInt ≤ (gO (m.toNat - 1)).toInt) : OR kI K L f k i := fun g2 q2 gP hg2 hq2 e2 j hj => by
  have a := hU g g2 hg.1 hg2.1 (hg.2.trans hg2.2.symm)
  have b := hU q q2 hq.1 hq2.1 (hq.2.trans hq2.2.symm)
  subst a
  subst b
  have d := e.symm.trans e2
  injection d with d
  injection d with _ d
  injection d with _ d
  injection d with d
  subst d
  rw [em] at hj ⊢
  exact h j hj
theorem OB.at {m : Int} (h : OB kI K L f k i c) (hg : isr K L 10 g) (hq : isr K L k q) (e : f q = .inl (kI, 300, .inl gO)) (em : vAt (f g) i = m) : ∀ j : Nat, (j : Int) < m → (gO j).toInt ≤ c := fun j hj => h g q gO hg hq e j (by rw [em]; exact hj)
theorem OR.at {m : Int} (h : OR kI K L f k i) (hg : isr K L 10 g) (hq : isr K L k q) (e : f q = .inl (kI, 300, .inl gO)) (em : vAt (f g) i = m) : ∀ j : Nat, (j : Int) < m → (gO j).toInt ≤ (gO (m.toNat - 1)).toInt := fun j hj => by
  have := h g q gO hg hq e j (by rw [em]; exact hj)
  rw [em] at this
  exact this
theorem OR.fr (h : OR kI K L f k i) (hfr : FR S K L f f2) (h1 : S 10 = false) (h2 : S k = false) : OR kI K L f2 k i := fun g q gO hg hq e j hj => by
  have eg := hfr g hg.1 (by rw [hg.2]; exact h1)
  have eq := hfr q hq.1 (by rw [hq.2]; exact h2)
  rw [eg] at hj ⊢
  exact h g q gO hg hq (eq.symm.trans e) j hj
end ORDER

