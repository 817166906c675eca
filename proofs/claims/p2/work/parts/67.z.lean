theorem zi_step {z : Nat → Int32} {i i2 : Int32} (h : ∀ j : Nat, (j : Int) < i.toInt → z j = 0) (h0 : 0 ≤ i.toInt) (e : i2.toInt = i.toInt + 1) : ∀ j : Nat, (j : Int) < i2.toInt → upd z (Int32.toNatClampNeg i) (vp_nar .boolean 0) j = 0 := fun j hj => by
  have e0 : vp_nar .boolean 0 = 0 := by decide
  have hc := clamp_int h0
  by_cases ej : j = Int32.toNatClampNeg i
  · rw [ej, pk_us]; exact e0
  · rw [pk_un ej]; exact h j (by omega)
theorem nz1 : vp_nar .boolean 1 ≠ 0 := by decide
theorem z_of {z : Nat → Int32} {k : Nat} {v : Int32} (e : v = z k) (h : v.toInt = 0) : z k = 0 := by
  rw [← e]
  exact Int32.toInt_inj.mp (h.trans (by decide))
theorem z_ne {z : Nat → Int32} {k : Nat} {v : Int32} (e : v = z k) (h : ¬ v.toInt = 0) : z k ≠ 0 := fun h2 => h (by rw [e, h2]; decide)
