-- WHAT THE REFERENCE ANSWERS, where it walks along links; what its writes change
def r_nx (fC : Nat → Int32) (fF : Nat → Int64) (o : Nat) : Option Nat := if (fF (17 * o + (if (fC o).toInt = 0 then 8 else if (fC o).toInt = 3 then 15 else 11))).toInt = -1 then none else some (fF (17 * o + (if (fC o).toInt = 0 then 8 else if (fC o).toInt = 3 then 15 else 11))).toInt.toNat
def r_n8 (fF : Nat → Int64) (o : Nat) : Option Nat := if (fF (17 * o + 8)).toInt = -1 then none else some (fF (17 * o + 8)).toInt.toNat
def rkd (fC : Nat → Int32) (fF : Nat → Int64) : Nat → Option Nat → Int32 → Int32 → Int32
  | 0, _, _, s => s
  | _ + 1, none, _, s => s
  | n + 1, some t, w, s => rkd fC fF n (if (fC t).toInt = 3 then none else r_n8 fF t) (w * 10) (s + w * (if (fC t).toInt = 3 then 7 else fC t + 1))
theorem rkd_none (fC : Nat → Int32) (fF : Nat → Int64) (n : Nat) (w s : Int32) : rkd fC fF n none w s = s := by cases n <;> rfl
/-- a place or none, as the reference says it -/
def plc (v : Int32) : Option Nat := if v.toInt = -1 then none else some (Int32.toNatClampNeg v)
theorem plc_none {v : Int32} (h : v.toInt = -1) : plc v = none := if_pos h
theorem plc_some {v : Int32} (h : ¬ v.toInt = -1) : plc v = some (Int32.toNatClampNeg v) := if_neg h
theorem rkd_step {fC : Nat → Int32} {fF : Nat → Int64} {i i2 w w2 s s2 T v v2 : Int32} (h : rkd fC fF (8 - i.toInt).toNat (plc v) w s = T) (hi : i.toInt < 8) (hv : ¬ v.toInt = -1) (e : i2.toInt = i.toInt + 1) (hw : w2 = w * 10) (hs : s2 = s + w * (if (fC (Int32.toNatClampNeg v)).toInt = 3 then 7 else fC (Int32.toNatClampNeg v) + 1)) (ho : plc v2 = (if (fC (Int32.toNatClampNeg v)).toInt = 3 then none else r_n8 fF (Int32.toNatClampNeg v))) : rkd fC fF (8 - i2.toInt).toNat (plc v2) w2 s2 = T := by
  have e1 : (8 - i.toInt).toNat = (8 - i2.toInt).toNat + 1 := by omega
  rw [e1, plc_some hv] at h
  rw [ho, hw, hs]
  exact h
theorem rkd_end {fC : Nat → Int32} {fF : Nat → Int64} {i w s T v : Int32} (h : rkd fC fF (8 - i.toInt).toNat (plc v) w s = T) (he : v.toInt = -1 ∨ 8 ≤ i.toInt) : s = T := by
  rcases he with he | he
  · rw [plc_none he, rkd_none] at h; exact h
  · have e1 : (8 - i.toInt).toNat = 0 := by omega
    rw [e1] at h
    exact h
theorem rdp_step {nx : Nat → Option Nat} {i i2 v v2 : Int32} {T : Int} (h : i.toInt + (dp nx (51 - (i.toInt + 1)).toNat (plc v) : Int) = T) (hi : i.toInt < 50) (hv : ¬ v.toInt = -1) (e : i2.toInt = i.toInt + 1) (ho : plc v2 = nx (Int32.toNatClampNeg v)) : i2.toInt + (dp nx (51 - (i2.toInt + 1)).toNat (plc v2) : Int) = T := by
  have e1 : (51 - (i.toInt + 1)).toNat = (51 - (i2.toInt + 1)).toNat + 1 := by omega
  rw [e1, plc_some hv] at h
  rw [ho]
  have h2 : dp nx ((51 - (i2.toInt + 1)).toNat + 1) (some (Int32.toNatClampNeg v)) = dp nx (51 - (i2.toInt + 1)).toNat (nx (Int32.toNatClampNeg v)) + 1 := rfl
  rw [h2] at h
  omega
theorem rdp_end {nx : Nat → Option Nat} {i v : Int32} {T : Int} (h : i.toInt + (dp nx (51 - (i.toInt + 1)).toNat (plc v) : Int) = T) (he : v.toInt = -1 ∨ 50 ≤ i.toInt) : i.toInt = T := by
  rcases he with he | he
  · rw [plc_none he, dp_none] at h; omega
  · have e1 : (51 - (i.toInt + 1)).toNat = 0 := by omega
    rw [e1, dp_zero] at h
    omega
section NXS
variable {fC : Nat → Int32} {fF : Nat → Int64} {o c z : Int32} {v : Int64}
theorem r_nx_8 (ec : c = fC (Int32.toNatClampNeg o)) (h : c.toInt = 0) (ev : v = fF (17 * Int32.toNatClampNeg o + 8)) (hz : z.toInt = v.toInt) : plc z = r_nx fC fF (Int32.toNatClampNeg o) := by
  unfold plc r_nx
  rw [← ec, if_pos h, ← ev, ← hz]
  rfl
theorem r_nx_15 (ec : c = fC (Int32.toNatClampNeg o)) (h0 : ¬ c.toInt = 0) (h : c.toInt = 3) (ev : v = fF (17 * Int32.toNatClampNeg o + 15)) (hz : z.toInt = v.toInt) : plc z = r_nx fC fF (Int32.toNatClampNeg o) := by
  unfold plc r_nx
  rw [← ec, if_neg h0, if_pos h, ← ev, ← hz]
  rfl
theorem r_nx_11 (ec : c = fC (Int32.toNatClampNeg o)) (h0 : ¬ c.toInt = 0) (h : ¬ c.toInt = 3) (ev : v = fF (17 * Int32.toNatClampNeg o + 11)) (hz : z.toInt = v.toInt) : plc z = r_nx fC fF (Int32.toNatClampNeg o) := by
  unfold plc r_nx
  rw [← ec, if_neg h0, if_neg h, ← ev, ← hz]
  rfl
theorem r_n8_is (ev : v = fF (17 * Int32.toNatClampNeg o + 8)) (hz : z.toInt = v.toInt) : plc z = r_n8 fF (Int32.toNatClampNeg o) := by
  unfold plc r_n8
  rw [← ev, ← hz]
  rfl
end NXS
def rs_call (fS fC : Nat → Int32) (fF : Nat → Int64) (s w r : Int32) : Prop := if (0 ≤ s.toInt ∧ s.toInt < 12) ∧ 0 ≤ w.toInt ∧ w.toInt ≤ 4 then (if (fS (Int32.toNatClampNeg s)).toInt = -1 then r = -11 else if w.toInt = 2 ∨ w.toInt = 3 then (if (fC (Int32.toNatClampNeg (fS (Int32.toNatClampNeg s)))).toInt < 4 then (if w.toInt = 2 then r.toInt + 1 = (dp (r_nx fC fF) 51 (some (Int32.toNatClampNeg (fS (Int32.toNatClampNeg s)))) : Int) else r = rkd fC fF 8 (some (Int32.toNatClampNeg (fS (Int32.toNatClampNeg s)))) 1 0) else r = -14) else (if ((fC (Int32.toNatClampNeg (fS (Int32.toNatClampNeg s)))).toInt = 0 ∨ (0 < (fC (Int32.toNatClampNeg (fS (Int32.toNatClampNeg s)))).toInt ∧ (fC (Int32.toNatClampNeg (fS (Int32.toNatClampNeg s)))).toInt < 3)) then (if w.toInt = 0 then r = rs_name (fC (Int32.toNatClampNeg (fS (Int32.toNatClampNeg s)))) (fun j => fF (17 * (Int32.toNatClampNeg (fS (Int32.toNatClampNeg s))) + j)) else if w.toInt = 1 then r = (fF (17 * (Int32.toNatClampNeg (fS (Int32.toNatClampNeg s))) + 1) + fF (17 * (Int32.toNatClampNeg (fS (Int32.toNatClampNeg s))) + 2)).toInt32 else (if (fF (17 * (Int32.toNatClampNeg (fS (Int32.toNatClampNeg s))) + 8)).toInt = -1 then r = -11 else r = rs_name (fC (fF (17 * (Int32.toNatClampNeg (fS (Int32.toNatClampNeg s))) + 8)).toInt.toNat) (fun j => fF (17 * (fF (17 * (Int32.toNatClampNeg (fS (Int32.toNatClampNeg s))) + 8)).toInt.toNat + j)))) else r = -14)) else r = -1
def rs_clear (fS : Nat → Int32) (s : Int32) : Int32 := if (0 ≤ s.toInt ∧ s.toInt < 12) then (if (fS (Int32.toNatClampNeg s)).toInt = -1 then 0 else 1) else -1
def rw_clear (fS : Nat → Int32) (s : Int32) : Nat → Int32 := if (0 ≤ s.toInt ∧ s.toInt < 12) then upd fS (Int32.toNatClampNeg s) (-1) else fS
def rw_share (fS : Nat → Int32) (s t : Int32) : Nat → Int32 := if (0 ≤ s.toInt ∧ s.toInt < 12) ∧ (0 ≤ t.toInt ∧ t.toInt < 12) then upd fS (Int32.toNatClampNeg t) (fS (Int32.toNatClampNeg s)) else fS
def rs_share (s t : Int32) : Int32 := if (0 ≤ s.toInt ∧ s.toInt < 12) ∧ (0 ≤ t.toInt ∧ t.toInt < 12) then 1 else -1
def rs_val (w : Int32) (v : Int64) : Int64 := if w.toInt = 0 then v &&& 1 else if w.toInt = 1 then ((v.toInt32 <<< (24 &&& 31)) >>> (24 &&& 31)).toInt64 else if w.toInt = 2 then ((v.toInt32 <<< (16 &&& 31)) >>> (16 &&& 31)).toInt64 else if w.toInt = 3 then v &&& 65535 else if w.toInt = 5 ∨ w.toInt = 12 then v else if w.toInt = 6 then (if 2139095040 < (v.toInt32 &&& 2147483647).toInt then 2143289344 else v.toInt32.toInt64) else if w.toInt = 7 ∨ w.toInt = 14 then (if 9218868437227405312 < (v &&& 9223372036854775807).toInt then 9221120237041090560 else v) else v.toInt32.toInt64
def rs_set (fS fC : Nat → Int32) (s w : Int32) : Int32 := if (0 ≤ s.toInt ∧ s.toInt < 12) ∧ (0 ≤ w.toInt ∧ w.toInt < 17 ∧ ¬ w.toInt = 8 ∧ ¬ w.toInt = 9 ∧ ¬ w.toInt = 11 ∧ ¬ w.toInt = 15) then (if (fS (Int32.toNatClampNeg s)).toInt = -1 then -11 else if ((((fC (Int32.toNatClampNeg (fS (Int32.toNatClampNeg s))))).toInt = 0 ∧ w.toInt < 10) ∨ (((fC (Int32.toNatClampNeg (fS (Int32.toNatClampNeg s))))).toInt = 1 ∧ w.toInt < 12) ∨ (((fC (Int32.toNatClampNeg (fS (Int32.toNatClampNeg s))))).toInt = 2 ∧ w.toInt < 14) ∨ (((fC (Int32.toNatClampNeg (fS (Int32.toNatClampNeg s))))).toInt = 3 ∧ (w.toInt = 14 ∨ w.toInt = 15)) ∨ (¬ ((fC (Int32.toNatClampNeg (fS (Int32.toNatClampNeg s))))).toInt = 0 ∧ ¬ ((fC (Int32.toNatClampNeg (fS (Int32.toNatClampNeg s))))).toInt = 1 ∧ ¬ ((fC (Int32.toNatClampNeg (fS (Int32.toNatClampNeg s))))).toInt = 2 ∧ ¬ ((fC (Int32.toNatClampNeg (fS (Int32.toNatClampNeg s))))).toInt = 3 ∧ w.toInt = 16)) then (if w.toInt = 13 ∨ w.toInt = 16 then -17 else 1) else -14) else -1
def rw_set (fS fC : Nat → Int32) (fF : Nat → Int64) (s w : Int32) (v : Int64) : Nat → Int64 := if (0 ≤ s.toInt ∧ s.toInt < 12) ∧ (0 ≤ w.toInt ∧ w.toInt < 17 ∧ ¬ w.toInt = 8 ∧ ¬ w.toInt = 9 ∧ ¬ w.toInt = 11 ∧ ¬ w.toInt = 15) then (if (fS (Int32.toNatClampNeg s)).toInt = -1 then fF else if ((((fC (Int32.toNatClampNeg (fS (Int32.toNatClampNeg s))))).toInt = 0 ∧ w.toInt < 10) ∨ (((fC (Int32.toNatClampNeg (fS (Int32.toNatClampNeg s))))).toInt = 1 ∧ w.toInt < 12) ∨ (((fC (Int32.toNatClampNeg (fS (Int32.toNatClampNeg s))))).toInt = 2 ∧ w.toInt < 14) ∨ (((fC (Int32.toNatClampNeg (fS (Int32.toNatClampNeg s))))).toInt = 3 ∧ (w.toInt = 14 ∨ w.toInt = 15)) ∨ (¬ ((fC (Int32.toNatClampNeg (fS (Int32.toNatClampNeg s))))).toInt = 0 ∧ ¬ ((fC (Int32.toNatClampNeg (fS (Int32.toNatClampNeg s))))).toInt = 1 ∧ ¬ ((fC (Int32.toNatClampNeg (fS (Int32.toNatClampNeg s))))).toInt = 2 ∧ ¬ ((fC (Int32.toNatClampNeg (fS (Int32.toNatClampNeg s))))).toInt = 3 ∧ w.toInt = 16)) then (if w.toInt = 13 ∨ w.toInt = 16 then fF else vp_updL fF (17 * (Int32.toNatClampNeg (fS (Int32.toNatClampNeg s))) + (Int32.toNatClampNeg w)) (rs_val w v)) else fF) else fF
def rs_link (fS fC : Nat → Int32) (s w t : Int32) : Int32 := if (0 ≤ s.toInt ∧ s.toInt < 12) ∧ (w.toInt = 8 ∨ w.toInt = 11 ∨ w.toInt = 15) ∧ (0 ≤ t.toInt ∧ t.toInt < 12) then (if (¬ (fS (Int32.toNatClampNeg s)).toInt = -1 ∧ ¬ ((((fC (Int32.toNatClampNeg (fS (Int32.toNatClampNeg s))))).toInt = 0 ∧ w.toInt < 10) ∨ (((fC (Int32.toNatClampNeg (fS (Int32.toNatClampNeg s))))).toInt = 1 ∧ w.toInt < 12) ∨ (((fC (Int32.toNatClampNeg (fS (Int32.toNatClampNeg s))))).toInt = 2 ∧ w.toInt < 14) ∨ (((fC (Int32.toNatClampNeg (fS (Int32.toNatClampNeg s))))).toInt = 3 ∧ (w.toInt = 14 ∨ w.toInt = 15)) ∨ (¬ ((fC (Int32.toNatClampNeg (fS (Int32.toNatClampNeg s))))).toInt = 0 ∧ ¬ ((fC (Int32.toNatClampNeg (fS (Int32.toNatClampNeg s))))).toInt = 1 ∧ ¬ ((fC (Int32.toNatClampNeg (fS (Int32.toNatClampNeg s))))).toInt = 2 ∧ ¬ ((fC (Int32.toNatClampNeg (fS (Int32.toNatClampNeg s))))).toInt = 3 ∧ w.toInt = 16))) ∨ (¬ (fS (Int32.toNatClampNeg t)).toInt = -1 ∧ ¬ ((w.toInt = 8 ∧ ((fC (Int32.toNatClampNeg (fS (Int32.toNatClampNeg t))))).toInt < 3) ∨ (¬ w.toInt = 8 ∧ w.toInt = 11 ∧ (((fC (Int32.toNatClampNeg (fS (Int32.toNatClampNeg t))))).toInt = 1 ∨ ((fC (Int32.toNatClampNeg (fS (Int32.toNatClampNeg t))))).toInt = 2)) ∨ (¬ w.toInt = 8 ∧ ¬ w.toInt = 11 ∧ ((fC (Int32.toNatClampNeg (fS (Int32.toNatClampNeg t))))).toInt < 4))) then -14 else if (fS (Int32.toNatClampNeg s)).toInt = -1 then -11 else 1) else -1
def rw_link (fS fC : Nat → Int32) (fF : Nat → Int64) (s w t : Int32) : Nat → Int64 := if (0 ≤ s.toInt ∧ s.toInt < 12) ∧ (w.toInt = 8 ∨ w.toInt = 11 ∨ w.toInt = 15) ∧ (0 ≤ t.toInt ∧ t.toInt < 12) then (if (¬ (fS (Int32.toNatClampNeg s)).toInt = -1 ∧ ¬ ((((fC (Int32.toNatClampNeg (fS (Int32.toNatClampNeg s))))).toInt = 0 ∧ w.toInt < 10) ∨ (((fC (Int32.toNatClampNeg (fS (Int32.toNatClampNeg s))))).toInt = 1 ∧ w.toInt < 12) ∨ (((fC (Int32.toNatClampNeg (fS (Int32.toNatClampNeg s))))).toInt = 2 ∧ w.toInt < 14) ∨ (((fC (Int32.toNatClampNeg (fS (Int32.toNatClampNeg s))))).toInt = 3 ∧ (w.toInt = 14 ∨ w.toInt = 15)) ∨ (¬ ((fC (Int32.toNatClampNeg (fS (Int32.toNatClampNeg s))))).toInt = 0 ∧ ¬ ((fC (Int32.toNatClampNeg (fS (Int32.toNatClampNeg s))))).toInt = 1 ∧ ¬ ((fC (Int32.toNatClampNeg (fS (Int32.toNatClampNeg s))))).toInt = 2 ∧ ¬ ((fC (Int32.toNatClampNeg (fS (Int32.toNatClampNeg s))))).toInt = 3 ∧ w.toInt = 16))) ∨ (¬ (fS (Int32.toNatClampNeg t)).toInt = -1 ∧ ¬ ((w.toInt = 8 ∧ ((fC (Int32.toNatClampNeg (fS (Int32.toNatClampNeg t))))).toInt < 3) ∨ (¬ w.toInt = 8 ∧ w.toInt = 11 ∧ (((fC (Int32.toNatClampNeg (fS (Int32.toNatClampNeg t))))).toInt = 1 ∨ ((fC (Int32.toNatClampNeg (fS (Int32.toNatClampNeg t))))).toInt = 2)) ∨ (¬ w.toInt = 8 ∧ ¬ w.toInt = 11 ∧ ((fC (Int32.toNatClampNeg (fS (Int32.toNatClampNeg t))))).toInt < 4))) then fF else if (fS (Int32.toNatClampNeg s)).toInt = -1 then fF else vp_updL fF (17 * (Int32.toNatClampNeg (fS (Int32.toNatClampNeg s))) + (Int32.toNatClampNeg w)) (fS (Int32.toNatClampNeg t)).toInt64) else fF
def rs_follow (fS fC : Nat → Int32) (s w t : Int32) : Int32 := if (0 ≤ s.toInt ∧ s.toInt < 12) ∧ (w.toInt = 8 ∨ w.toInt = 11 ∨ w.toInt = 15) ∧ (0 ≤ t.toInt ∧ t.toInt < 12) then (if (fS (Int32.toNatClampNeg s)).toInt = -1 then -11 else if ((((fC (Int32.toNatClampNeg (fS (Int32.toNatClampNeg s))))).toInt = 0 ∧ w.toInt < 10) ∨ (((fC (Int32.toNatClampNeg (fS (Int32.toNatClampNeg s))))).toInt = 1 ∧ w.toInt < 12) ∨ (((fC (Int32.toNatClampNeg (fS (Int32.toNatClampNeg s))))).toInt = 2 ∧ w.toInt < 14) ∨ (((fC (Int32.toNatClampNeg (fS (Int32.toNatClampNeg s))))).toInt = 3 ∧ (w.toInt = 14 ∨ w.toInt = 15)) ∨ (¬ ((fC (Int32.toNatClampNeg (fS (Int32.toNatClampNeg s))))).toInt = 0 ∧ ¬ ((fC (Int32.toNatClampNeg (fS (Int32.toNatClampNeg s))))).toInt = 1 ∧ ¬ ((fC (Int32.toNatClampNeg (fS (Int32.toNatClampNeg s))))).toInt = 2 ∧ ¬ ((fC (Int32.toNatClampNeg (fS (Int32.toNatClampNeg s))))).toInt = 3 ∧ w.toInt = 16)) then 1 else -14) else -1
def rw_follow (fS fC : Nat → Int32) (fF : Nat → Int64) (s w t : Int32) : Nat → Int32 := if (0 ≤ s.toInt ∧ s.toInt < 12) ∧ (w.toInt = 8 ∨ w.toInt = 11 ∨ w.toInt = 15) ∧ (0 ≤ t.toInt ∧ t.toInt < 12) then (if (fS (Int32.toNatClampNeg s)).toInt = -1 then fS else if ((((fC (Int32.toNatClampNeg (fS (Int32.toNatClampNeg s))))).toInt = 0 ∧ w.toInt < 10) ∨ (((fC (Int32.toNatClampNeg (fS (Int32.toNatClampNeg s))))).toInt = 1 ∧ w.toInt < 12) ∨ (((fC (Int32.toNatClampNeg (fS (Int32.toNatClampNeg s))))).toInt = 2 ∧ w.toInt < 14) ∨ (((fC (Int32.toNatClampNeg (fS (Int32.toNatClampNeg s))))).toInt = 3 ∧ (w.toInt = 14 ∨ w.toInt = 15)) ∨ (¬ ((fC (Int32.toNatClampNeg (fS (Int32.toNatClampNeg s))))).toInt = 0 ∧ ¬ ((fC (Int32.toNatClampNeg (fS (Int32.toNatClampNeg s))))).toInt = 1 ∧ ¬ ((fC (Int32.toNatClampNeg (fS (Int32.toNatClampNeg s))))).toInt = 2 ∧ ¬ ((fC (Int32.toNatClampNeg (fS (Int32.toNatClampNeg s))))).toInt = 3 ∧ w.toInt = 16)) then upd fS (Int32.toNatClampNeg t) (fF (17 * (Int32.toNatClampNeg (fS (Int32.toNatClampNeg s))) + (Int32.toNatClampNeg w))).toInt32 else fS) else fS
def rs_row (fS fC : Nat → Int32) (s n : Int32) : Int32 := if (0 ≤ s.toInt ∧ s.toInt < 12) ∧ n.toInt ≤ 20 then (if ¬ (fS (Int32.toNatClampNeg s)).toInt = -1 ∧ ¬ ((((fC (Int32.toNatClampNeg (fS (Int32.toNatClampNeg s))))).toInt = 0) ∨ (((fC (Int32.toNatClampNeg (fS (Int32.toNatClampNeg s))))).toInt = 1) ∨ (((fC (Int32.toNatClampNeg (fS (Int32.toNatClampNeg s))))).toInt = 2)) then -14 else if n.toInt < 0 ∧ ¬ n.toInt = -4 then -13 else if (fS (Int32.toNatClampNeg s)).toInt = -1 then -11 else n) else -1
/-- the first i places of a row are wiped -/
def wip (fW : Nat → Int32) (a i : Nat) : Nat → Int32 := fun j => if a ≤ j ∧ j < a + i then 0 else fW j
theorem wip_0 (fW : Nat → Int32) (a : Nat) : wip fW a 0 = fW := by
  funext j
  unfold wip
  exact if_neg (by omega)
theorem wip_step (fW : Nat → Int32) (a i : Nat) : upd (wip fW a i) (a + i) 0 = wip fW a (i + 1) := by
  funext j
  by_cases e : j = a + i
  · rw [e, pk_us]
    unfold wip
    rw [if_pos (by omega)]
  · rw [pk_un e]
    unfold wip
    by_cases hp : a ≤ j ∧ j < a + i
    · rw [if_pos hp, if_pos (by omega)]
    · rw [if_neg hp, if_neg (by omega)]
def rs_put (fS fC : Nat → Int32) (fR fW : Nat → Int32) (s i : Int32) : Int32 := if (0 ≤ s.toInt ∧ s.toInt < 12) then (if (fS (Int32.toNatClampNeg s)).toInt = -1 then -11 else if ((((fC (Int32.toNatClampNeg (fS (Int32.toNatClampNeg s))))).toInt = 0) ∨ (((fC (Int32.toNatClampNeg (fS (Int32.toNatClampNeg s))))).toInt = 1) ∨ (((fC (Int32.toNatClampNeg (fS (Int32.toNatClampNeg s))))).toInt = 2)) then (if (fR (Int32.toNatClampNeg (fS (Int32.toNatClampNeg s)))).toInt = -1 then -11 else if 0 ≤ i.toInt ∧ i.toInt < (fR (Int32.toNatClampNeg (fS (Int32.toNatClampNeg s)))).toInt then fW (20 * (Int32.toNatClampNeg (fS (Int32.toNatClampNeg s))) + (Int32.toNatClampNeg i)) else -12) else -14) else -1
def rw_put (fS fC : Nat → Int32) (fR fW : Nat → Int32) (s i v : Int32) : Nat → Int32 := if (0 ≤ s.toInt ∧ s.toInt < 12) then (if (fS (Int32.toNatClampNeg s)).toInt = -1 then fW else if ((((fC (Int32.toNatClampNeg (fS (Int32.toNatClampNeg s))))).toInt = 0) ∨ (((fC (Int32.toNatClampNeg (fS (Int32.toNatClampNeg s))))).toInt = 1) ∨ (((fC (Int32.toNatClampNeg (fS (Int32.toNatClampNeg s))))).toInt = 2)) then (if (fR (Int32.toNatClampNeg (fS (Int32.toNatClampNeg s)))).toInt = -1 then fW else if 0 ≤ i.toInt ∧ i.toInt < (fR (Int32.toNatClampNeg (fS (Int32.toNatClampNeg s)))).toInt then upd fW (20 * (Int32.toNatClampNeg (fS (Int32.toNatClampNeg s))) + (Int32.toNatClampNeg i)) v else fW) else fW) else fW
def rs_passes (fS fC : Nat → Int32) (fF : Nat → Int64) (s n : Int32) : Int32 := if (0 ≤ s.toInt ∧ s.toInt < 12) ∧ 1 ≤ n.toInt ∧ n.toInt ≤ 12 then rs_raise fS fC fF s else -1
def rw_passes (pa s n : Int32) : Int32 := if (0 ≤ s.toInt ∧ s.toInt < 12) ∧ 1 ≤ n.toInt ∧ n.toInt ≤ 12 then n else pa
def rs_alter (lm : Int32) (ld : Nat → Int32) (k : Int32) : Int32 := if (0 ≤ k.toInt ∧ k.toInt < lm.toInt) ∧ ¬ (ld (Int32.toNatClampNeg k)).toInt = -1 ∧ ¬ (ld (Int32.toNatClampNeg k)).toInt = 9 then 1 else -1
def rw_alter (lm : Int32) (ld : Nat → Int32) (lv : Nat → Int64) (k : Int32) (v : Int64) : Nat → Int64 := if (0 ≤ k.toInt ∧ k.toInt < lm.toInt) ∧ ¬ (ld (Int32.toNatClampNeg k)).toInt = -1 ∧ ¬ (ld (Int32.toNatClampNeg k)).toInt = 9 then vp_updL lv (Int32.toNatClampNeg k) v else lv

