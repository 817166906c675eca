theorem zi_step {z : Nat → Int32} {i i2 : Int32} (h : ∀ j : Nat, (j : Int) < i.toInt → z j = 0) (h0 : 0 ≤ i.toInt) (e : i2.toInt = i.toInt + 1) : ∀ j : Nat, (j : Int) < i2.toInt → upd z (Int32.toNatClampNeg i) (vp_nar .boolean 0) j = 0 := fun j hj => by
  have e0 : vp_nar .boolean 0 = 0 := by decide
  have hc := clamp_int h0
  by_cases ej : j = Int32.toNatClampNeg i
  · rw [ej, pk_us]; exact e0
  · rw [pk_un ej]; exact h j (by omega)
theorem nz1 : vp_nar .boolean 1 ≠ 0 := by decide
theorem z_of {z : Nat → Int32} {k : Nat} {v : Int32} (e : v = z k) (h : v.toInt = 0) : z k = 0 := by
  rw [← e]
  exact Int32.toInt_inj.mp (h.trans (by decide))
theorem z_ne {z : Nat → Int32} {k : Nat} {v : Int32} (e : v = z k) (h : ¬ v.toInt = 0) : z k ≠ 0 := fun h2 => h (by rw [e, h2]; decide)
theorem dec_toInt {x y : Int32} (e : y = x + (-1)) (h : 0 < x.toInt) : y.toInt = x.toInt - 1 := by
  have h2 := Int32.toInt_lt x
  rw [e, Int32.toInt_add]
  have e1 : (-1 : Int32).toInt = -1 := by decide
  rw [e1]
  exact Int.bmod_eq_of_le (by omega) (by omega)
theorem tgt_eq {fF : Nat → Int64} {o f w u : Int32} {v : Int64} (ho : 0 ≤ o.toInt) (hf : 0 ≤ f.toInt) (hw : w.toInt = 17 * o.toInt + f.toInt) (ev : v = fF (Int32.toNatClampNeg w)) (hz : u.toInt = v.toInt) : tgt fF (Int32.toNatClampNeg o) (Int32.toNatClampNeg f) = Int32.toNatClampNeg u := by
  unfold tgt
  rw [← idx_clamp ho hf hw, ← ev, ← hz]
  rfl
theorem lnk_mk {fC : Nat → Int32} {fF : Nat → Int64} {o f w u c : Int32} {v : Int64} (ho : 0 ≤ o.toInt) (hf : f.toInt = 8 ∨ f.toInt = 11 ∨ f.toInt = 15) (hw : w.toInt = 17 * o.toInt + f.toInt) (ec : c = fC (Int32.toNatClampNeg o)) (hc : hasP c.toInt f.toInt) (ev : v = fF (Int32.toNatClampNeg w)) (hz : u.toInt = v.toInt) (hn : ¬ u.toInt = -1) : lnk fC fF (Int32.toNatClampNeg o) (Int32.toNatClampNeg f) := by
  have e2 := clamp_int (i := f) (by omega)
  refine ⟨by unfold lkf; omega, by rw [e2, ← ec]; exact hc, ?_⟩
  rw [← idx_clamp ho (by omega) hw, ← ev]
  omega

