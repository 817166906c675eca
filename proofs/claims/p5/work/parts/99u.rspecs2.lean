-- WHAT THE REFERENCE ANSWERS, where it walks along links; what its writes change
def r_nx (fC : Nat → Int32) (fF : Nat → Int64) (o : Nat) : Option Nat := if (fF (17 * o + (if (fC o).toInt = 0 then 8 else if (fC o).toInt = 3 then 15 else 11))).toInt = -1 then none else some (fF (17 * o + (if (fC o).toInt = 0 then 8 else if (fC o).toInt = 3 then 15 else 11))).toInt.toNat
def r_n8 (fF : Nat → Int64) (o : Nat) : Option Nat := if (fF (17 * o + 8)).toInt = -1 then none else some (fF (17 * o + 8)).toInt.toNat
def rkd (fC : Nat → Int32) (fF : Nat → Int64) : Nat → Option Nat → Int32 → Int32 → Int32
  | 0, _, _, s => s
  | _ + 1, none, _, s => s
  | n + 1, some t, w, s => rkd fC fF n (if (fC t).toInt = 3 then none else r_n8 fF t) (w * 10) (s + w * (if (fC t).toInt = 3 then 7 else fC t + 1))
theorem rkd_none (fC : Nat → Int32) (fF : Nat → Int64) (n : Nat) (w s : Int32) : rkd fC fF n none w s = s := by cases n <;> rfl
/-- a place or none, as the reference says it -/
def plc (v : Int32) : Option Nat := if v.toInt = -1 then none else some v.toInt.toNat
theorem plc_none {v : Int32} (h : v.toInt = -1) : plc v = none := if_pos h
theorem plc_some {v : Int32} (h : ¬ v.toInt = -1) : plc v = some v.toInt.toNat := if_neg h
theorem rkd_step {fC : Nat → Int32} {fF : Nat → Int64} {i i2 w w2 s s2 T v v2 : Int32} (h : rkd fC fF (8 - i.toInt).toNat (plc v) w s = T) (hi : i.toInt < 8) (hv : ¬ v.toInt = -1) (e : i2.toInt = i.toInt + 1) (hw : w2 = w * 10) (hs : s2 = s + w * (if (fC v.toInt.toNat).toInt = 3 then 7 else fC v.toInt.toNat + 1)) (ho : plc v2 = (if (fC v.toInt.toNat).toInt = 3 then none else r_n8 fF v.toInt.toNat)) : rkd fC fF (8 - i2.toInt).toNat (plc v2) w2 s2 = T := by
  have e1 : (8 - i.toInt).toNat = (8 - i2.toInt).toNat + 1 := by omega
  rw [e1, plc_some hv] at h
  rw [ho, hw, hs]
  exact h
theorem rkd_end {fC : Nat → Int32} {fF : Nat → Int64} {i w s T v : Int32} (h : rkd fC fF (8 - i.toInt).toNat (plc v) w s = T) (he : v.toInt = -1 ∨ 8 ≤ i.toInt) : s = T := by
  rcases he with he | he
  · rw [plc_none he, rkd_none] at h; exact h
  · have e1 : (8 - i.toInt).toNat = 0 := by omega
    rw [e1] at h
    exact h
theorem rdp_step {nx : Nat → Option Nat} {i i2 v v2 : Int32} {T : Int} (h : i.toInt + (dp nx (51 - (i.toInt + 1)).toNat (plc v) : Int) = T) (hi : i.toInt < 50) (hv : ¬ v.toInt = -1) (e : i2.toInt = i.toInt + 1) (ho : plc v2 = nx v.toInt.toNat) : i2.toInt + (dp nx (51 - (i2.toInt + 1)).toNat (plc v2) : Int) = T := by
  have e1 : (51 - (i.toInt + 1)).toNat = (51 - (i2.toInt + 1)).toNat + 1 := by omega
  rw [e1, plc_some hv] at h
  rw [ho]
  have h2 : dp nx ((51 - (i2.toInt + 1)).toNat + 1) (some v.toInt.toNat) = dp nx (51 - (i2.toInt + 1)).toNat (nx v.toInt.toNat) + 1 := rfl
  rw [h2] at h
  omega
theorem rdp_end {nx : Nat → Option Nat} {i v : Int32} {T : Int} (h : i.toInt + (dp nx (51 - (i.toInt + 1)).toNat (plc v) : Int) = T) (he : v.toInt = -1 ∨ 50 ≤ i.toInt) : i.toInt = T := by
  rcases he with he | he
  · rw [plc_none he, dp_none] at h; omega
  · have e1 : (51 - (i.toInt + 1)).toNat = 0 := by omega
    rw [e1, dp_zero] at h
    omega
def rs_call (fS fC : Nat → Int32) (fF : Nat → Int64) (s w r : Int32) : Prop := if (0 ≤ s.toInt ∧ s.toInt < 12) ∧ 0 ≤ w.toInt ∧ w.toInt ≤ 4 then (if (fS (Int32.toNatClampNeg s)).toInt = -1 then r = -11 else if w.toInt = 2 ∨ w.toInt = 3 then (if (fC (Int32.toNatClampNeg (fS (Int32.toNatClampNeg s)))).toInt < 4 then (if w.toInt = 2 then r.toInt + 1 = (dp (r_nx fC fF) 51 (some (Int32.toNatClampNeg (fS (Int32.toNatClampNeg s)))) : Int) else r = rkd fC fF 8 (some (Int32.toNatClampNeg (fS (Int32.toNatClampNeg s)))) 1 0) else r = -14) else (if ((fC (Int32.toNatClampNeg (fS (Int32.toNatClampNeg s)))).toInt = 0 ∨ (0 < (fC (Int32.toNatClampNeg (fS (Int32.toNatClampNeg s)))).toInt ∧ (fC (Int32.toNatClampNeg (fS (Int32.toNatClampNeg s)))).toInt < 3)) then (if w.toInt = 0 then r = rs_name (fC (Int32.toNatClampNeg (fS (Int32.toNatClampNeg s)))) (fun j => fF (17 * (Int32.toNatClampNeg (fS (Int32.toNatClampNeg s))) + j)) else if w.toInt = 1 then r = (fF (17 * (Int32.toNatClampNeg (fS (Int32.toNatClampNeg s))) + 1) + fF (17 * (Int32.toNatClampNeg (fS (Int32.toNatClampNeg s))) + 2)).toInt32 else (if (fF (17 * (Int32.toNatClampNeg (fS (Int32.toNatClampNeg s))) + 8)).toInt = -1 then r = -11 else r = rs_name (fC (fF (17 * (Int32.toNatClampNeg (fS (Int32.toNatClampNeg s))) + 8)).toInt.toNat) (fun j => fF (17 * (fF (17 * (Int32.toNatClampNeg (fS (Int32.toNatClampNeg s))) + 8)).toInt.toNat + j)))) else r = -14)) else r = -1
