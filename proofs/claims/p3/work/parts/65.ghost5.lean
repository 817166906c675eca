section LINKS
variable {kI kJ : ClassId} {K : Nat → Nat} {L : List Nat} {f2 : Nat → va_E} {fS fC : Nat → Int32} {fF : Nat → Int64} {nE nB : Nat}
theorem GX.up (h : GX kI kJ K L f2 nE nB) : GX kI kJ K L f2 (nE + 1) nB := by
  obtain ⟨fS, fC, fF, hS, A, b, E, B, h1, h2, h3⟩ := h
  exact ⟨fS, fC, fF, hS, A, b, E, B, h1, by omega, h3⟩
theorem idx_clamp {o f w : Int32} (ho : 0 ≤ o.toInt) (hf : 0 ≤ f.toInt) (hw : w.toInt = 17 * o.toInt + f.toInt) : Int32.toNatClampNeg w = 17 * Int32.toNatClampNeg o + Int32.toNatClampNeg f := by
  have e1 := clamp_int ho
  have e2 := clamp_int hf
  have e3 := clamp_int (i := w) (by omega)
  omega
theorem follow_in {A : Nat → Prop} (hA : CL fS fC fF A) {s f o w z4 : Int32} {v : Int64} (hs : 0 ≤ s.toInt ∧ s.toInt < 12) (eo : o = fS (Int32.toNatClampNeg s)) (ho : 0 ≤ o.toInt ∧ o.toInt < 6400) (hf : f.toInt = 8 ∨ f.toInt = 11 ∨ f.toInt = 15) (hw : w.toInt = 17 * o.toInt + f.toInt) (hh : hasP (fC (Int32.toNatClampNeg o)).toInt f.toInt) (ev : v = fF (Int32.toNatClampNeg w)) (hz : z4.toInt = v.toInt) (hn : ¬ z4.toInt = -1) : A z4.toInt.toNat := by
  have e1 := clamp_int hs.1
  have e2 := clamp_int (i := f) (by omega)
  have hAo : A (Int32.toNatClampNeg o) := by
    have := hA.1 (Int32.toNatClampNeg s) (by omega) (by rw [← eo]; omega)
    rw [← eo] at this
    exact this
  rw [idx_clamp ho.1 (by omega) hw] at ev
  have hl : lnk fC fF (Int32.toNatClampNeg o) (Int32.toNatClampNeg f) := ⟨by unfold lkf; omega, by rw [e2]; exact hh, by rw [← ev]; omega⟩
  have := hA.2 _ _ hAo hl
  unfold tgt at this
  rw [← ev, ← hz] at this
  exact this
theorem link_ok {s f o w t u : Int32} (h : GI fS fC fF nE nB) (ho : 0 ≤ o.toInt) (hf : 0 ≤ f.toInt ∧ f.toInt < 17) (hw : w.toInt = 17 * o.toInt + f.toInt) (ht : 0 ≤ t.toInt ∧ t.toInt < 12) (eu : u = fS (Int32.toNatClampNeg t)) : GI fS fC (vp_updL fF (Int32.toNatClampNeg w) (Int32.toInt64 u)) (nE + 1) nB := by
  have e2 := clamp_int hf.1
  have e1 := clamp_int ht.1
  rw [idx_clamp ho hf.1 hw]
  refine gi_link h (by omega) (fun hn A hA => ?_)
  have e3 := Int32.toInt_toInt64 u
  rw [e3] at hn ⊢
  have := hA.1 (Int32.toNatClampNeg t) (by omega) (by rw [← eu]; exact hn)
  rw [← eu] at this
  exact this
end LINKS
