-- WHAT THE REFERENCE MAKES: rows, births; told
theorem clamp_eq {i n : Int32} (h : i.toInt = n.toInt ∨ (n.toInt < 0 ∧ i.toInt = 0)) : Int32.toNatClampNeg i = Int32.toNatClampNeg n := by
  show i.toInt.toNat = n.toInt.toNat
  omega
def rw_rowR (fS fC fR : Nat → Int32) (s n : Int32) : Nat → Int32 := if (0 ≤ s.toInt ∧ s.toInt < 12) ∧ n.toInt ≤ 20 then (if ¬ (fS (Int32.toNatClampNeg s)).toInt = -1 ∧ ¬ (((fC (Int32.toNatClampNeg (fS (Int32.toNatClampNeg s)))).toInt = 0) ∨ ((fC (Int32.toNatClampNeg (fS (Int32.toNatClampNeg s)))).toInt = 1) ∨ ((fC (Int32.toNatClampNeg (fS (Int32.toNatClampNeg s)))).toInt = 2)) then fR else if n.toInt < 0 ∧ ¬ n.toInt = -4 then fR else if (fS (Int32.toNatClampNeg s)).toInt = -1 then fR else upd fR (Int32.toNatClampNeg (fS (Int32.toNatClampNeg s))) (if n.toInt = -4 then -1 else n)) else fR
def rw_rowW (fS fC fW : Nat → Int32) (s n : Int32) : Nat → Int32 := if (0 ≤ s.toInt ∧ s.toInt < 12) ∧ n.toInt ≤ 20 then (if ¬ (fS (Int32.toNatClampNeg s)).toInt = -1 ∧ ¬ (((fC (Int32.toNatClampNeg (fS (Int32.toNatClampNeg s)))).toInt = 0) ∨ ((fC (Int32.toNatClampNeg (fS (Int32.toNatClampNeg s)))).toInt = 1) ∨ ((fC (Int32.toNatClampNeg (fS (Int32.toNatClampNeg s)))).toInt = 2)) then fW else if n.toInt < 0 ∧ ¬ n.toInt = -4 then fW else if (fS (Int32.toNatClampNeg s)).toInt = -1 then fW else wip fW (20 * Int32.toNatClampNeg (fS (Int32.toNatClampNeg s))) (Int32.toNatClampNeg n)) else fW
/-- the fields of a place below i are as at a birth -/
def bnK (fF : Nat → Int64) (o i : Nat) : Nat → Int64 := fun j => if 17 * o ≤ j ∧ j < 17 * o + i then (if j = 17 * o + 8 ∨ j = 17 * o + 11 ∨ j = 17 * o + 15 then -1 else 0) else fF j
def bnF (fF : Nat → Int64) (o : Nat) (c n : Int32) : Nat → Int64 := if c.toInt = 2 then vp_updL (bnK fF o 17) (17 * o + 13) n.toInt64 else if c.toInt = 4 then vp_updL (bnK fF o 17) (17 * o + 16) n.toInt64 else bnK fF o 17
theorem bnK_0 (fF : Nat → Int64) (o : Nat) : bnK fF o 0 = fF := by
  funext j
  unfold bnK
  exact if_neg (by omega)
theorem bnK_step {fF : Nat → Int64} {o i : Nat} {v : Int64} (hv : v = if i = 8 ∨ i = 11 ∨ i = 15 then -1 else 0) : vp_updL (bnK fF o i) (17 * o + i) v = bnK fF o (i + 1) := by
  funext j
  by_cases e : j = 17 * o + i
  · rw [e, pk_uLs, hv]
    have hR : bnK fF o (i + 1) (17 * o + i) = if 17 * o + i = 17 * o + 8 ∨ 17 * o + i = 17 * o + 11 ∨ 17 * o + i = 17 * o + 15 then -1 else 0 := if_pos (by omega)
    rw [hR]
    by_cases hl : i = 8 ∨ i = 11 ∨ i = 15
    · rw [if_pos hl, if_pos (by omega)]
    · rw [if_neg hl, if_neg (by omega)]
  · rw [pk_uLn e]
    unfold bnK
    by_cases hp : 17 * o ≤ j ∧ j < 17 * o + i
    · have hp2 : 17 * o ≤ j ∧ j < 17 * o + (i + 1) := by omega
      rw [if_pos hp, if_pos hp2]
    · rw [if_neg hp, if_neg (by omega)]
/-- what the leaves tell of an object's field -/
def tol : List (Int32 × Int32 × Int64) → Int32 → Int32 → Int64
  | [], _, _ => 0
  | x :: t, o, d => if x.1.toInt = o.toInt ∧ x.2.1.toInt = d.toInt then x.2.2 else tol t o d
section TOLS
variable {z : Int32} {n d : Nat → Int32} {v : Nat → Int64} {l : List (Int32 × Int32 × Int64)} {i i2 o f : Int32}
theorem tol_next (h : LSv z n d v l) (h0 : 0 ≤ i.toInt) (h1 : i.toInt < z.toInt) (hn : ¬ ((n (Int32.toNatClampNeg i)).toInt = o.toInt ∧ (d (Int32.toNatClampNeg i)).toInt = f.toInt)) (e : i2.toInt = i.toInt + 1) : tol (l.drop (Int32.toNatClampNeg i2)) o f = tol (l.drop (Int32.toNatClampNeg i)) o f := by
  rw [drop_at h h0 h1, cl_succ h0 e]
  exact (if_neg hn).symm
theorem tol_hit (h : LSv z n d v l) (h0 : 0 ≤ i.toInt) (h1 : i.toInt < z.toInt) (hn : (n (Int32.toNatClampNeg i)).toInt = o.toInt ∧ (d (Int32.toNatClampNeg i)).toInt = f.toInt) : tol (l.drop (Int32.toNatClampNeg i)) o f = v (Int32.toNatClampNeg i) := by
  rw [drop_at h h0 h1]
  exact if_pos hn
theorem tol_end (h : LSv z n d v l) (h0 : 0 ≤ i.toInt) (h1 : ¬ i.toInt < z.toInt) : tol (l.drop (Int32.toNatClampNeg i)) o f = 0 := by
  rw [drop_end h h0 h1]
  rfl
end TOLS
/-- what make does -/
def rv_make (fS fC : Nat → Int32) (fF : Nat → Int64) (fR : Nat → Int32) (s c n : Int32) (fS2 fC2 : Nat → Int32) (fF2 : Nat → Int64) (fR2 : Nat → Int32) : Prop := (¬ ((0 ≤ s.toInt ∧ s.toInt < 12) ∧ (0 ≤ c.toInt ∧ c.toInt ≤ 4) ∧ (¬ c.toInt = 2 ∨ (0 ≤ n.toInt ∧ n.toInt ≤ 1000))) ∧ fS2 = fS ∧ fC2 = fC ∧ fF2 = fF ∧ fR2 = fR) ∨ (((0 ≤ s.toInt ∧ s.toInt < 12) ∧ (0 ≤ c.toInt ∧ c.toInt ≤ 4) ∧ (¬ c.toInt = 2 ∨ (0 ≤ n.toInt ∧ n.toInt ≤ 1000))) ∧ ∃ (z : Nat → Int32) (r : Int32), MK fS fC fF z ∧ LF z (Int32.toNatClampNeg r) ∧ (0 ≤ r.toInt ∧ r.toInt < 6400) ∧ fS2 = upd fS (Int32.toNatClampNeg s) r ∧ fC2 = upd fC (Int32.toNatClampNeg r) c ∧ fF2 = bnF fF (Int32.toNatClampNeg r) c n ∧ fR2 = upd fR (Int32.toNatClampNeg r) (-1))

