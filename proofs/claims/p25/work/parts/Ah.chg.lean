-- CHANGED: the k-th field that differs
def chP (d : Nat → Prop) : Nat → Nat → Int → Int32 → Prop
  | 0, _, _, r => r = -4
  | m + 1, j, k, r => (d j ∧ k = 0 ∧ r = Int32.ofNat j) ∨ (d j ∧ ¬ k = 0 ∧ chP d m (j + 1) (k - 1) r) ∨ (¬ d j ∧ chP d m (j + 1) k r)
/-- the answer is one -/
theorem chP_one {d d2 : Nat → Prop} {r r2 : Int32} : ∀ (m j : Nat) (k : Int), j + m = 17 → (∀ i, i < 17 → (d i ↔ d2 i)) → chP d m j k r → chP d2 m j k r2 → r = r2
  | 0, _, _, _, _, h1, h2 => by
    have h1 : r = -4 := h1
    have h2 : r2 = -4 := h2
    rw [h1, h2]
  | m + 1, j, k, hj, hd, h1, h2 => by
    have hi := hd j (by omega)
    rcases h1 with ⟨a1, a2, a3⟩ | ⟨a1, a2, a3⟩ | ⟨a1, a3⟩
    · rcases h2 with ⟨b1, b2, b3⟩ | ⟨b1, b2, b3⟩ | ⟨b1, b3⟩
      · rw [a3, b3]
      · exact absurd a2 b2
      · exact absurd (hi.mp a1) b1
    · rcases h2 with ⟨b1, b2, b3⟩ | ⟨b1, b2, b3⟩ | ⟨b1, b3⟩
      · exact absurd b2 a2
      · exact chP_one m (j + 1) (k - 1) (by omega) hd a3 b3
      · exact absurd (hi.mp a1) b1
    · rcases h2 with ⟨b1, b2, b3⟩ | ⟨b1, b2, b3⟩ | ⟨b1, b3⟩
      · exact absurd (hi.mpr b1) a1
      · exact absurd (hi.mpr b1) a1
      · exact chP_one m (j + 1) k (by omega) hd a3 b3
section CHS
variable {d : Nat → Prop} {i i2 : Int32} {k : Int} {T : Int32 → Prop}
theorem chP_hit (h : ∀ r, chP d (17 - i.toInt).toNat (Int32.toNatClampNeg i) k r → T r) (h0 : 0 ≤ i.toInt ∧ i.toInt < 17) (hd : d (Int32.toNatClampNeg i)) (hk : k = 0) : T i := by
  refine h i ?_
  have e : (17 - i.toInt).toNat = (16 - i.toInt).toNat + 1 := by omega
  rw [e]
  exact Or.inl ⟨hd, hk, (ofNat_clamp h0.1).symm⟩
theorem chP_skip (h : ∀ r, chP d (17 - i.toInt).toNat (Int32.toNatClampNeg i) k r → T r) (h0 : 0 ≤ i.toInt ∧ i.toInt < 17) (hd : ¬ d (Int32.toNatClampNeg i)) (e : i2.toInt = i.toInt + 1) : ∀ r, chP d (17 - i2.toInt).toNat (Int32.toNatClampNeg i2) k r → T r := fun r hr => by
  refine h r ?_
  have e1 : (17 - i.toInt).toNat = (17 - i2.toInt).toNat + 1 := by omega
  rw [e1]
  rw [cl_succ h0.1 e] at hr
  exact Or.inr (Or.inr ⟨hd, hr⟩)
theorem chP_next {k2 : Int} (h : ∀ r, chP d (17 - i.toInt).toNat (Int32.toNatClampNeg i) k r → T r) (h0 : 0 ≤ i.toInt ∧ i.toInt < 17) (hd : d (Int32.toNatClampNeg i)) (hk : ¬ k = 0) (hk2 : k2 = k - 1) (e : i2.toInt = i.toInt + 1) : ∀ r, chP d (17 - i2.toInt).toNat (Int32.toNatClampNeg i2) k2 r → T r := fun r hr => by
  refine h r ?_
  have e1 : (17 - i.toInt).toNat = (17 - i2.toInt).toNat + 1 := by omega
  rw [e1]
  rw [cl_succ h0.1 e, hk2] at hr
  exact Or.inr (Or.inl ⟨hd, hk, hr⟩)
theorem chP_end (h : ∀ r, chP d (17 - i.toInt).toNat (Int32.toNatClampNeg i) k r → T r) (h0 : 17 ≤ i.toInt) : T (-4) := by
  refine h (-4) ?_
  have e : (17 - i.toInt).toNat = 0 := by omega
  rw [e]
  rfl
end CHS
/-- the class's fields differ -/
def dfc (f : Nat → va_E) (x y j : Nat) : Prop := if j = 8 ∨ j = 11 ∨ j = 15 then ¬ g_lk f x (j : Int) = g_lk f y (j : Int) else if j = 9 then ¬ reqv (g_rw f x) (g_rw f y) else ¬ g_vl f x j = g_vl f y j
def ks_chg (f : Nat → va_E) (h : Nat) (s t k r : Int32) : Prop := if (0 ≤ s.toInt ∧ s.toInt < 12) ∧ (0 ≤ t.toInt ∧ t.toInt < 12) ∧ 0 ≤ k.toInt then (match g_sl f h (Int32.toNatClampNeg s), g_sl f h (Int32.toNatClampNeg t) with
  | some x, some y => if (g_cn f x).toInt = (g_cn f y).toInt then chP (dfc f x y) 17 0 k.toInt r else r = -14
  | _, _ => r = -11) else r = -1
/-- the reference's -/
def dfr (fC : Nat → Int32) (fF : Nat → Int64) (fR fW : Nat → Int32) (a b j : Nat) : Prop := hs (fC a).toInt (j : Int) = true ∧ (if j = 9 then ¬ ((fR a).toInt = (fR b).toInt ∧ ∀ i : Nat, (i : Int) < (fR a).toInt → fW (20 * a + i) = fW (20 * b + i)) else ¬ fF (17 * a + j) = fF (17 * b + j))
def rs_chg (fS fC : Nat → Int32) (fF : Nat → Int64) (fR fW : Nat → Int32) (s t k r : Int32) : Prop := if (0 ≤ s.toInt ∧ s.toInt < 12) ∧ (0 ≤ t.toInt ∧ t.toInt < 12) ∧ 0 ≤ k.toInt then (if (fS (Int32.toNatClampNeg s)).toInt = -1 ∨ (fS (Int32.toNatClampNeg t)).toInt = -1 then r = -11 else if (fC (Int32.toNatClampNeg (fS (Int32.toNatClampNeg s)))).toInt = (fC (Int32.toNatClampNeg (fS (Int32.toNatClampNeg t)))).toInt then chP (dfr fC fF fR fW (Int32.toNatClampNeg (fS (Int32.toNatClampNeg s))) (Int32.toNatClampNeg (fS (Int32.toNatClampNeg t)))) 17 0 k.toInt r else r = -14) else r = -1
