section LINKS
variable {kI kJ : ClassId} {K : Nat → Nat} {L : List Nat} {f2 : Nat → va_E} {fS fC : Nat → Int32} {fF : Nat → Int64} {nE nB : Nat}
theorem idx_clamp {o f w : Int32} (ho : 0 ≤ o.toInt) (hf : 0 ≤ f.toInt) (hw : w.toInt = 17 * o.toInt + f.toInt) : Int32.toNatClampNeg w = 17 * Int32.toNatClampNeg o + Int32.toNatClampNeg f := by
  have e1 := clamp_int ho
  have e2 := clamp_int hf
  have e3 := clamp_int (i := w) (by omega)
  omega
end LINKS

